/** Promises 1 to 8: a new object, consents, segments, joining, parting and forgetting. */
final class VisitorsTest {
  public static void main(String[] args) {
    newObject();
    setConsent();
    setSegment();
    join();
    part();
    person();
    consent();
    forget();
    Check.end();
  }

  private static void newObject() {
    GlanceMarket x = new GlanceMarket();
    for (int id = 0; id < 20; id++) {
      Check.due("1: consent", 'a', x.consent(id));
      Check.due("1: person", id, x.person(id));
      for (int segment = 0; segment < 8; segment++) {
        Check.due("1: segment", false, x.setSegment(id, segment, false));
      }
    }
    Check.bounds("1: no places", () -> x.revenue(0));
    Check.bounds("1: no campaigns", () -> x.credit(0));
    Check.bounds("1: no requests", () -> x.winner(0));
    Check.due("1: hour 0", 1, x.pass(1));
    Check.due("1: groundless", 0, x.groundless());
    Check.due("1: paid", 0L, x.paid());
    Check.due("1: isSound", true, x.isSound());
    Check.due("1: another object", 'a', x.setConsent(3, 'n'));
    Check.due("1: is another one", 'a', new GlanceMarket().consent(3));
  }

  private static void setConsent() {
    GlanceMarket x = new GlanceMarket();
    Check.due("2: first", 'a', x.setConsent(0, 'l'));
    Check.due("2: second", 'l', x.setConsent(0, 'n'));
    Check.due("2: third", 'n', x.setConsent(0, 'a'));
    Check.due("2: last id", 'a', x.setConsent(19, 'l'));
    x.join(0, 19);
    Check.due("2: the id's own, not the person's", 'a', x.setConsent(0, 'a'));
    Check.bounds("2: id -1", () -> x.setConsent(-1, 'a'));
    Check.bounds("2: id 20 comes first", () -> x.setConsent(20, 'x'));
    Check.argument("2: x", () -> x.setConsent(19, 'x'));
    Check.argument("2: A", () -> x.setConsent(19, 'A'));
    Check.argument("2: m", () -> x.setConsent(19, 'm'));
    Check.due("2: nothing changed", 'l', x.consent(19));
  }

  private static void setSegment() {
    GlanceMarket x = new GlanceMarket();
    Check.due("3: had not", false, x.setSegment(0, 0, true));
    Check.due("3: had", true, x.setSegment(0, 0, true));
    Check.due("3: took", true, x.setSegment(0, 0, false));
    Check.due("3: has not", false, x.setSegment(0, 0, false));
    Check.due("3: last", false, x.setSegment(19, 7, true));
    Check.due("3: another segment", false, x.setSegment(19, 6, true));
    Check.due("3: the first one stays", true, x.setSegment(19, 7, true));
    x.join(0, 19);
    Check.due("3: the id's own, not the person's", false, x.setSegment(0, 7, false));
    Check.due("3: the other keeps its own", true, x.setSegment(19, 7, true));
    Check.bounds("3: id 20 comes first", () -> x.setSegment(20, 8, true));
    Check.bounds("3: id -1", () -> x.setSegment(-1, 0, true));
    Check.argument("3: segment 8", () -> x.setSegment(0, 8, true));
    Check.argument("3: segment -1", () -> x.setSegment(0, -1, true));
    Check.argument("3: segment 32", () -> x.setSegment(0, 32, true));
    Check.due("3: nothing changed", false, x.setSegment(0, 0, false));
  }

  private static void join() {
    GlanceMarket x = new GlanceMarket();
    Check.due("4: itself", false, x.join(5, 5));
    Check.due("4: two", true, x.join(5, 9));
    Check.due("4: again", false, x.join(9, 5));
    Check.due("4: two others", true, x.join(12, 3));
    Check.due("4: all of them", true, x.join(9, 12));
    for (int id : new int[] {3, 5, 9, 12}) {
      Check.due("4: one person", 3, x.person(id));
    }
    Check.due("4: all are joined", false, x.join(5, 3));
    Check.due("4: another is not", 4, x.person(4));
    Check.bounds("4: first", () -> x.join(20, 0));
    Check.bounds("4: second", () -> x.join(0, 20));
    Check.bounds("4: below", () -> x.join(-1, -1));
    Check.bounds("4: second below", () -> x.join(0, -1));
    Check.due("4: nothing changed", 0, x.person(0));
  }

  private static void part() {
    GlanceMarket x = new GlanceMarket();
    Check.due("5: alone", 1, x.part(7));
    x.join(2, 4);
    x.join(4, 8);
    x.join(8, 16);
    Check.due("5: the lowest", 4, x.part(2));
    Check.due("5: it is alone", 2, x.person(2));
    Check.due("5: the others stay", 4, x.person(16));
    Check.due("5: the others stay", 4, x.person(4));
    Check.due("5: one within", 3, x.part(8));
    Check.due("5: the rest", 4, x.person(16));
    Check.due("5: the greatest", 2, x.part(16));
    Check.due("5: the last", 1, x.part(4));
    Check.due("5: joined again", true, x.join(16, 8));
    Check.due("5: by two", 8, x.person(16));
    Check.due("5: not the old ones", 4, x.person(4));
    Check.bounds("5: id 20", () -> x.part(20));
    Check.bounds("5: id -1", () -> x.part(-1));
  }

  private static void person() {
    GlanceMarket x = new GlanceMarket();
    x.join(19, 18);
    Check.due("6: lowest", 18, x.person(19));
    x.join(18, 0);
    Check.due("6: lower", 0, x.person(19));
    Check.due("6: another", 1, x.person(1));
    Check.bounds("6: id 20", () -> x.person(20));
    Check.bounds("6: id -1", () -> x.person(-1));
  }

  private static void consent() {
    GlanceMarket x = new GlanceMarket();
    x.join(0, 1);
    x.join(1, 2);
    x.setConsent(1, 'l');
    Check.due("7: the stricter one", 'l', x.consent(0));
    x.setConsent(2, 'n');
    Check.due("7: the strictest one", 'n', x.consent(0));
    Check.due("7: of each id", 'n', x.consent(1));
    Check.due("7: of nobody else", 'a', x.consent(3));
    x.part(2);
    Check.due("7: parted", 'l', x.consent(0));
    Check.due("7: its own", 'n', x.consent(2));
    x.setConsent(1, 'a');
    Check.due("7: all", 'a', x.consent(1));
    Check.bounds("7: id 20", () -> x.consent(20));
    Check.bounds("7: id -1", () -> x.consent(-1));
  }

  private static void forget() {
    GlanceMarket x = new GlanceMarket();
    x.addPlace(1, '1');
    x.addCampaign(0, 10, 99999, 1, -1);
    x.addCampaign(0, 5, 99999, 99, 4);
    x.approve(0, true);
    x.approve(1, true);
    x.setSegment(1, 4, true);
    x.setSegment(2, 4, true);
    x.join(1, 2);
    for (int id : new int[] {1, 2, 3, 1}) {
      x.request(0, id);
    }
    x.show(0, 0);
    x.click(0, 0);
    x.show(1, 3);
    x.buy(1, 50, 0);
    x.buy(2, 60, 2);
    Check.due("8: the cap before", false, x.mayBid(0, 0, 2));
    Check.bounds("8: id 20", () -> x.forget(20));
    Check.bounds("8: id -1", () -> x.forget(-1));
    Check.due("8: thanks before", 50, x.thanked(0, 'f'));
    Check.due("8: requests, won or not", 3, x.forget(2));
    Check.due("8: parted", 1, x.person(1));
    Check.due("8: parted", 2, x.person(2));
    Check.due("8: consents", 'n', x.consent(1));
    Check.due("8: consents", 'n', x.consent(2));
    Check.due("8: segments", false, x.setSegment(1, 4, false));
    Check.due("8: segments", false, x.setSegment(2, 4, false));
    Check.due("8: another keeps its own", 'a', x.consent(3));
    Check.due("8: no person any more", 0, x.forget(1));
    Check.due("8: no thanks", 0, x.thanked(0, 'f'));
    Check.unsupported("8: no thanks", () -> x.thanks(0, 0, 'f'));
    Check.due("8: money stays", 10, x.revenue(0));
    x.pass(3);
    Check.due("8: events come likewise", 'c', x.stateOf(1));
    Check.due("8: events come likewise", 20, x.charged(0, 0));
    Check.unsupported("8: nor for what comes later", () -> x.thanks(1, 0, 'f'));
    x.setConsent(1, 'a');
    Check.due("8: no cap", true, x.mayBid(0, 0, 1));
    x.request(0, 1);
    Check.due("8: only the new one", 1, x.forget(1));
    Check.due("8: the other's one", 1, x.forget(3));
    allSegmentsAreTaken();
    forgottenAreNotSwept();
    Check.due("8: isSound", true, x.isSound());
  }

  private static void allSegmentsAreTaken() {
    GlanceMarket x = new GlanceMarket();
    x.join(0, 19);
    for (int segment = 0; segment < 8; segment++) {
      x.setSegment(0, segment, true);
      x.setSegment(19, segment, true);
      x.setSegment(1, segment, true);
    }
    Check.due("8: no requests", 0, x.forget(19));
    for (int segment = 0; segment < 8; segment++) {
      Check.due("8: taken from the first id", false, x.setSegment(0, segment, false));
      Check.due("8: taken from the last id", false, x.setSegment(19, segment, false));
      Check.due("8: not from another", true, x.setSegment(1, segment, true));
    }
    Check.due("8: consent of the first id", 'n', x.consent(0));
    Check.due("8: consent of the last id", 'n', x.consent(19));
    Check.due("8: parted from the first id", 19, x.person(19));
  }

  private static void forgottenAreNotSwept() {
    GlanceMarket x = new GlanceMarket();
    x.addPlace(1, '1');
    x.addCampaign(0, 10, 99999, 99, -1);
    x.approve(0, true);
    for (int i = 0; i < 5; i++) {
      x.request(0, 6);
      if (i == 3) {
        x.forget(6);
        x.setConsent(6, 'a');
      }
      x.show(i, 0);
    }
    x.pass(1);
    Check.due("8: no sweep", 0, x.sweep(0));
  }
}
