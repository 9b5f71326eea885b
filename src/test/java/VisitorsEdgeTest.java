/** Promises 1 to 8 at their edges: the first and the last id and segment, none and all joined. */
final class VisitorsEdgeTest {
  private static final String BY_STRICTNESS = "aln";

  public static void main(String[] args) {
    newIsEmpty();
    newIsAtHourZero();
    consentOfEachId();
    consentFromEachToEach();
    segmentOfEachId();
    joinWithItself();
    joinAll();
    joinOfJoined();
    partFromTheLowest();
    partFromTheGreatest();
    personOfTwoEnds();
    consentOfEachPair();
    consentOfAll();
    forgetWithoutRequests();
    forgetAllIds();
    forgetAtTheLimitOfCap();
    forgetAtTheLimitOfSweep();
    forgottenCountForNoThanks();
    forgottenEventsCome();
    forgottenIsNotJoinedAgain();
    Check.end();
  }

  private static GlanceMarket allJoined() {
    GlanceMarket x = new GlanceMarket();
    for (int id = 1; id < 20; id++) {
      x.join(id - 1, id);
    }
    return x;
  }

  private static void newIsEmpty() {
    GlanceMarket x = new GlanceMarket();
    for (int reseller = 0; reseller < 6; reseller++) {
      Check.due("1: no fees", 0, x.fees(reseller));
    }
    Check.due("1: nothing without ground", 0, x.groundless());
    Check.due("1: nothing paid", 0L, x.paid());
    Check.due("1: nothing paid anew", 0L, x.paidAnew());
    Check.arithmetic("1: no requests", x::soldShare);
    Check.arithmetic("1: no requests that were won", x::meanPrice);
    Check.due("1: the first place is number 0", 0, x.addPlace(1, '1'));
    Check.due("1: the first campaign is number 0", 0, x.addCampaign(0, 1, 1, 1, -1));
    Check.due("1: the first request is number 0", 0, x.request(0, 0));
    Check.due("1: none was on its way", 1, x.show(0, 1));
    Check.due("1: the first purchase is number 0", 0, x.buy(0, 1, 0));
  }

  private static void newIsAtHourZero() {
    GlanceMarket x = Markets.won(1);
    Check.refused(x, "1: the hour 0 is not over", "IllegalArgumentException", () -> x.sweep(0));
    x.show(0, 0);
    Check.due("1: the hour 0 is of the day 0", 10, x.charged(0, 0));
    Check.due("1: from 0 to 1", 1, x.pass(1));
    Check.due("1: now it is over", 0, x.sweep(0));
  }

  private static void consentOfEachId() {
    for (int id = 0; id < 20; id++) {
      GlanceMarket x = new GlanceMarket();
      Check.due("2: the first one", 'a', x.setConsent(id, 'n'));
      for (int other = 0; other < 20; other++) {
        Check.due("2: of " + other + " by " + id, other == id ? 'n' : 'a', x.consent(other));
      }
    }
  }

  private static void consentFromEachToEach() {
    GlanceMarket x = new GlanceMarket();
    for (char from : BY_STRICTNESS.toCharArray()) {
      for (char to : BY_STRICTNESS.toCharArray()) {
        x.setConsent(19, from);
        Check.due("2: the one before " + to, from, x.setConsent(19, to));
        Check.due("2: from " + from, to, x.consent(19));
      }
    }
  }

  private static void segmentOfEachId() {
    for (int id = 0; id < 20; id++) {
      for (int segment = 0; segment < 8; segment++) {
        GlanceMarket x = new GlanceMarket();
        Check.due("3: had it not", false, x.setSegment(id, segment, true));
        for (int i = 0; i < 20 * 8; i++) {
          Check.due("3: " + i + " by " + id + ", " + segment, i == id * 8 + segment,
              x.setSegment(i / 8, i % 8, false));
        }
        Check.due("3: was taken", false, x.setSegment(id, segment, false));
      }
    }
  }

  private static void joinWithItself() {
    GlanceMarket x = new GlanceMarket();
    String before = Inside.of(x);
    Check.due("4: the first with itself", false, x.join(0, 0));
    Check.due("4: the last with itself", false, x.join(19, 19));
    Check.due("4: that changes nothing", before, Inside.of(x));
  }

  private static void joinAll() {
    GlanceMarket x = new GlanceMarket();
    for (int id = 18; id >= 0; id--) {
      Check.due("4: one more", true, x.join(19, id));
      Check.due("4: the lowest so far", id, x.person(19));
    }
    for (int id = 0; id < 20; id++) {
      Check.due("4: all are one", 0, x.person(id));
      Check.due("4: none is left to join", false, x.join(id, 19 - id));
    }
  }

  private static void joinOfJoined() {
    GlanceMarket x = new GlanceMarket();
    x.join(0, 19);
    x.join(1, 18);
    Check.due("4: both are two", true, x.join(18, 19));
    Check.due("4: the other way round", false, x.join(0, 1));
    for (int id = 2; id < 18; id++) {
      Check.due("4: nobody else", id, x.person(id));
    }
    Check.due("4: four ids", 4, x.part(1));
  }

  private static void partFromTheLowest() {
    GlanceMarket x = allJoined();
    for (int id = 0; id < 20; id++) {
      Check.due("5: that many ids ahead of " + id, 20 - id, x.part(id));
      Check.due("5: alone", id, x.person(id));
      Check.due("5: the next one stands for the rest", Math.min(id + 1, 19), x.person(19));
    }
    Check.due("5: nobody is left", 1, x.part(19));
  }

  private static void partFromTheGreatest() {
    GlanceMarket x = allJoined();
    for (int id = 19; id >= 0; id--) {
      Check.due("5: that many ids up to " + id, id + 1, x.part(id));
      Check.due("5: alone", id, x.person(id));
      Check.due("5: the lowest stays", 0, x.person(Math.max(id - 1, 0)));
    }
  }

  private static void personOfTwoEnds() {
    GlanceMarket x = new GlanceMarket();
    Check.due("6: the first one by itself", 0, x.person(0));
    Check.due("6: the last one by itself", 19, x.person(19));
    x.join(19, 0);
    Check.due("6: of both the lowest", 0, x.person(19));
    Check.due("6: of both the lowest", 0, x.person(0));
    x.part(0);
    Check.due("6: parted, the last one by itself", 19, x.person(19));
  }

  private static void consentOfEachPair() {
    for (int one = 0; one < 3; one++) {
      for (int two = 0; two < 3; two++) {
        GlanceMarket x = new GlanceMarket();
        x.setConsent(0, BY_STRICTNESS.charAt(one));
        x.setConsent(19, BY_STRICTNESS.charAt(two));
        x.join(0, 19);
        char due = BY_STRICTNESS.charAt(Math.max(one, two));
        Check.due("7: by the first id", due, x.consent(0));
        Check.due("7: by the last id", due, x.consent(19));
        x.part(0);
        Check.due("7: each keeps its own", BY_STRICTNESS.charAt(one), x.consent(0));
        Check.due("7: each keeps its own", BY_STRICTNESS.charAt(two), x.consent(19));
      }
    }
  }

  private static void consentOfAll() {
    GlanceMarket x = allJoined();
    Check.due("7: all of all", 'a', x.consent(7));
    for (int id = 0; id < 20; id++) {
      x.setConsent(id, 'l');
      Check.due("7: one of twenty", 'l', x.consent(19 - id));
      x.setConsent(id, 'a');
      Check.due("7: none of twenty", 'a', x.consent(19 - id));
    }
  }

  private static void forgetWithoutRequests() {
    GlanceMarket x = new GlanceMarket();
    Check.due("8: the first id", 0, x.forget(0));
    Check.due("8: the last id", 0, x.forget(19));
    Check.due("8: again", 0, x.forget(19));
    Check.due("8: it may give its consent again", 'n', x.setConsent(19, 'a'));
    Check.due("8: others keep theirs", 'a', x.consent(18));
  }

  private static void forgetAllIds() {
    GlanceMarket x = allJoined();
    x.addPlace(1, '1');
    for (int id = 0; id < 20; id++) {
      x.setSegment(id, 7 - id % 8, true);
      x.request(0, id);
    }
    Check.due("8: the requests of all ids", 20, x.forget(10));
    for (int id = 0; id < 20; id++) {
      Check.due("8: parted", id, x.person(id));
      Check.due("8: without consent", 'n', x.consent(id));
      Check.due("8: without segment", false, x.setSegment(id, 7 - id % 8, false));
      Check.due("8: without requests", 0, x.forget(id));
    }
  }

  private static void forgetAtTheLimitOfCap() {
    GlanceMarket x = new GlanceMarket();
    x.addPlace(1, '1');
    x.addCampaign(0, 1, 99999, 1, -1);
    x.approve(0, true);
    Markets.shown(x, 0);
    x.join(0, 1);
    Check.due("8: the cap is reached", false, x.mayBid(0, 0, 1));
    x.forget(1);
    x.setConsent(0, 'a');
    x.setConsent(1, 'a');
    Check.due("8: no cap for the id that came", true, x.mayBid(0, 0, 0));
    Check.due("8: no cap for the other", true, x.mayBid(0, 0, 1));
    Markets.shown(x, 0);
    Check.due("8: what comes after counts again", false, x.mayBid(0, 0, 0));
  }

  private static void forgetAtTheLimitOfSweep() {
    GlanceMarket x = Markets.with('1', 1, 10);
    Markets.shown(x, 0);
    x.forget(0);
    x.setConsent(0, 'a');
    for (int i = 0; i < 3; i++) {
      Markets.shown(x, 0);
    }
    x.pass(1);
    Check.due("8: three and a forgotten one are not more than 3", 0, x.sweep(0));
    for (int i = 0; i < 4; i++) {
      Markets.shown(x, 0);
    }
    x.forget(0);
    x.setConsent(0, 'a');
    x.pass(1);
    Check.due("8: four forgotten ones are nobody's", 0, x.sweep(1));
    Check.due("8: the money stays", 80, x.revenue(0));
    int gone = Markets.shown(x, 0);
    x.forget(0);
    x.setConsent(0, 'a');
    for (int i = 0; i < 4; i++) {
      Markets.shown(x, 0);
    }
    x.pass(1);
    Check.due("8: four, without the forgotten one", 4, x.sweep(2));
    Check.due("8: which stays charged", 'c', x.stateOf(gone));
  }

  private static void forgottenCountForNoThanks() {
    GlanceMarket x = Markets.with('1', 1, 10);
    int gone = Markets.clicked(x, 0);
    x.forget(0);
    x.setConsent(0, 'a');
    int own = Markets.clicked(x, 0);
    x.buy(0, 101, 0);
    Check.due("8: the forgotten one is not the earliest", 101, x.thanks(0, own, 'f'));
    Check.due("8: nor one of several", 101, x.thanks(0, own, 'e'));
    for (char model : "fle".toCharArray()) {
      Check.due("8: nothing for it", 0, x.thanks(0, gone, model));
    }
  }

  private static void forgottenEventsCome() {
    GlanceMarket x = Markets.won(2);
    x.show(0, 1);
    x.click(0, 1);
    x.click(1, 1);
    x.buy(0, 5, 1);
    Check.due("8: both requests", 2, x.forget(0));
    x.pass(1);
    Check.due("8: the showing and the click came", 'k', x.stateOf(0));
    Check.due("8: the other click had no ground", 1, x.groundless());
    Check.refused(x, "8: the purchase has no person", "UnsupportedOperationException",
        () -> x.thanks(0, 0, 'f'));
    Check.due("8: nor thanks", 0, x.thanked(0, 'f'));
    x.show(1, 0);
    Check.due("8: what is told after comes likewise", 20, x.charged(0, 0));
    Check.due("8: and is paid", 20L, x.paid());
  }

  private static void forgottenIsNotJoinedAgain() {
    GlanceMarket x = Markets.won(2);
    x.buy(0, 5, 0);
    x.forget(0);
    x.join(0, 1);
    Check.due("8: joining brings no request back", 0, x.forget(1));
    Check.refused(x, "8: nor a purchase", "UnsupportedOperationException",
        () -> x.thanks(0, 0, 'f'));
  }
}
