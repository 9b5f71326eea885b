/** Promises 22 to 28 at their edges: no delay and the longest, the last hour, three and four. */
final class EventsEdgeTest {
  public static void main(String[] args) {
    showByEachDelay();
    clickByEachDelay();
    purchaseByEachDelay();
    eventsOnTheirWay();
    eventsWithoutDelayComeAhead();
    manyEvents();
    showingsOfOneRequest();
    clickAheadOfShowing();
    clickOfInvalid();
    leastAndGreatestValue();
    twentyPurchases();
    hourByHour();
    lastHour();
    refusedHoursDoNotPass();
    eventsOfTheLastHour();
    hoursThatAreOver();
    threeAndFourInAnHour();
    fourInTwoHours();
    sweepAgainAfterJoin();
    sweepAfterPart();
    sweepByHourOfComing();
    stateFromEachEvent();
    groundlessByEachEvent();
    Check.end();
  }

  private static void showByEachDelay() {
    for (int delay = 1; delay <= 40; delay++) {
      GlanceMarket x = Markets.won(1);
      Check.due("22: one is on its way", 1, x.show(0, delay));
      if (delay > 1) {
        x.pass(delay - 1);
      }
      Check.due("22: an hour ahead of " + delay, 'w', x.stateOf(0));
      x.pass(1);
      Check.due("22: after " + delay, 'c', x.stateOf(0));
      Check.due("22: in the day of coming", 10, x.charged(0, delay / 24));
    }
  }

  private static void clickByEachDelay() {
    for (int delay = 1; delay <= 40; delay++) {
      GlanceMarket x = Markets.won(1);
      x.show(0, 0);
      Check.due("23: one is on its way", 1, x.click(0, delay));
      if (delay > 1) {
        x.pass(delay - 1);
      }
      Check.due("23: an hour ahead of " + delay, 'c', x.stateOf(0));
      x.pass(1);
      Check.due("23: after " + delay, 'k', x.stateOf(0));
    }
  }

  private static void purchaseByEachDelay() {
    for (int delay = 1; delay <= 40; delay++) {
      GlanceMarket x = Markets.with('1', 1, 10);
      Markets.clicked(x, 0);
      Check.due("24: the number", 0, x.buy(0, 7, delay));
      Check.due("24: one is on its way", 1, x.show(0, 0));
      if (delay > 1) {
        x.pass(delay - 1);
      }
      Check.refused(x, "24: an hour ahead of " + delay, "UnsupportedOperationException",
          () -> x.thanks(0, 0, 'f'));
      Check.due("24: no thanks yet", 0, x.thanked(0, 'f'));
      x.pass(1);
      Check.due("24: after " + delay, 7, x.thanks(0, 0, 'f'));
    }
  }

  private static void eventsOnTheirWay() {
    GlanceMarket x = Markets.won(1);
    Check.due("22: none", 0, x.show(0, 0));
    Check.due("23: none", 0, x.click(0, 0));
    x.buy(0, 1, 0);
    Check.due("24: a purchase that came", 0, x.show(0, 0));
    x.buy(0, 1, 2);
    Check.due("24: a purchase is an event", 2, x.show(0, 1));
    Check.due("23: three", 3, x.click(0, 3));
    x.pass(1);
    Check.due("22: two are left", 2, x.show(0, 0));
    x.pass(1);
    Check.due("22: one is left", 1, x.show(0, 0));
    x.pass(1);
    Check.due("22: none is left", 0, x.show(0, 0));
  }

  private static void eventsWithoutDelayComeAhead() {
    GlanceMarket x = Markets.won(1);
    x.show(0, 1);
    x.show(0, 0);
    Check.due("22: at once", 'c', x.stateOf(0));
    Check.due("22: in this hour", 10, x.charged(0, 0));
    Check.due("28: not the later one yet", 0, x.groundless());
    x.click(0, 1);
    Check.due("23: at once, two are on their way", 2, x.click(0, 0));
    x.pass(1);
    Check.due("28: both came too late", 2, x.groundless());
  }

  private static void manyEvents() {
    GlanceMarket x = Markets.won(1);
    for (int i = 1; i <= 500; i++) {
      Check.due("22: on their way", i, i % 2 == 0 ? x.show(0, 40) : x.click(0, 40));
    }
    Check.due("25: the hour ahead", 39, x.pass(39));
    Check.due("28: none came", 0, x.groundless());
    Check.due("25: their hour", 40, x.pass(1));
    // The first click comes ahead of the first showing, the second one behind it.
    Check.due("28: all but one showing and one click", 498, x.groundless());
    Check.due("27: clicked", 'k', x.stateOf(0));
    Check.due("22: none is left", 0, x.show(0, 0));
  }

  private static void showingsOfOneRequest() {
    GlanceMarket x = Markets.won(1);
    x.show(0, 24);
    x.show(0, 23);
    x.pass(24);
    Check.due("22: the earlier one is charged", 10, x.charged(0, 0));
    Check.due("22: the later one is not", 0, x.charged(0, 1));
    Check.due("28: it had no ground", 1, x.groundless());
  }

  private static void clickAheadOfShowing() {
    GlanceMarket x = Markets.won(1);
    x.click(0, 2);
    x.show(0, 2);
    x.pass(2);
    Check.due("23: told ahead in the same hour", 'c', x.stateOf(0));
    Check.due("28: without ground", 1, x.groundless());
    x.pass(40);
    Check.due("23: for good", 'c', x.stateOf(0));
    GlanceMarket y = Markets.won(1);
    y.show(0, 2);
    y.click(0, 2);
    y.pass(2);
    Check.due("23: told behind in the same hour", 'k', y.stateOf(0));
    Check.due("28: with ground", 0, y.groundless());
  }

  private static void clickOfInvalid() {
    GlanceMarket x = Markets.won(4);
    for (int i = 0; i < 4; i++) {
      x.show(i, 0);
    }
    x.pass(1);
    x.sweep(0);
    x.click(0, 0);
    Check.due("23: it counts", 0, x.groundless());
    x.click(0, 0);
    Check.due("23: once", 1, x.groundless());
    Check.due("27: invalid all the same", 'i', x.stateOf(0));
    x.show(0, 0);
    Check.due("22: charged already, be it invalid", 2, x.groundless());
    Check.due("29: not charged again", 40, x.charged(0, 0));
  }

  private static void leastAndGreatestValue() {
    GlanceMarket x = Markets.with('1', 1, 10);
    int request = Markets.clicked(x, 0);
    Check.due("24: the least value", 1, x.thanks(x.buy(0, 1, 0), request, 'l'));
    Check.due("24: the greatest value", 9999, x.thanks(x.buy(0, 9999, 0), request, 'l'));
  }

  private static void twentyPurchases() {
    GlanceMarket x = Markets.won(1);
    for (int i = 0; i < 20; i++) {
      Check.due("24: the number", i, x.buy(i, 1 + i, i));
    }
    Check.refused(x, "24: one more", "IllegalStateException", () -> x.buy(0, 1, 0));
    Check.due("24: all but the first are on their way", 19, x.show(0, 0));
    x.pass(48);
    Check.refused(x, "24: told ones make no room", "IllegalStateException", () -> x.buy(0, 1, 0));
    x.forget(0);
    Check.refused(x, "24: nor forgotten ones", "IllegalStateException", () -> x.buy(0, 1, 0));
    Check.due("24: the last one is there", 0, x.thanks(19, 0, 'f'));
  }

  private static void hourByHour() {
    GlanceMarket once = withEventsOfEachHour();
    GlanceMarket often = withEventsOfEachHour();
    once.pass(48);
    for (int i = 0; i < 48; i++) {
      often.pass(1);
    }
    Check.due("25: 48 hours are 48 times one hour", Inside.of(often), Inside.of(once));
    Check.due("25: all of them came", 'k', once.stateOf(39));
  }

  private static GlanceMarket withEventsOfEachHour() {
    GlanceMarket x = Markets.won(40);
    for (int i = 0; i < 40; i++) {
      x.show(i, 40 - i);
      x.click(i, 40);
      x.show(i, i);
    }
    x.buy(0, 5, 20);
    return x;
  }

  private static void lastHour() {
    GlanceMarket x = new GlanceMarket();
    for (int hour = 48; hour <= 1968; hour += 48) {
      Check.due("25: 48 more", hour, x.pass(48));
    }
    Check.refused(x, "25: 2016", "IllegalStateException", () -> x.pass(48));
    Check.refused(x, "25: 2001", "IllegalStateException", () -> x.pass(33));
    Check.due("25: 2000", 2000, x.pass(32));
    Check.refused(x, "25: 2001", "IllegalStateException", () -> x.pass(1));
    Check.refused(x, "25: the number comes first", "IllegalArgumentException", () -> x.pass(0));
    Check.refused(x, "25: the number comes first", "IllegalArgumentException", () -> x.pass(49));
  }

  private static void refusedHoursDoNotPass() {
    GlanceMarket x = Markets.won(1);
    Markets.pass(x, 1999);
    x.show(0, 1);
    Check.refused(x, "25: 2001", "IllegalStateException", () -> x.pass(2));
    Check.due("25: the hour 2000 did not begin", 'w', x.stateOf(0));
    Check.due("25: now it does", 2000, x.pass(1));
    Check.due("25: its event came", 'c', x.stateOf(0));
  }

  private static void eventsOfTheLastHour() {
    GlanceMarket x = Markets.won(2);
    Markets.pass(x, 1960);
    x.show(0, 40);
    x.pass(1);
    Check.due("22: both are on their way", 2, x.show(1, 40));
    x.pass(39);
    Check.due("25: of the hour 2000", 'c', x.stateOf(0));
    Check.due("29: the hour 2000 is of the day 83", 10, x.charged(0, 83));
    Check.due("25: of the hour 2001", 'w', x.stateOf(1));
    Check.due("22: still on its way", 1, x.show(0, 0));
    x.show(1, 0);
    Check.due("22: without a delay it comes", 'c', x.stateOf(1));
  }

  private static void hoursThatAreOver() {
    GlanceMarket x = Markets.won(4);
    Markets.pass(x, 1999);
    for (int i = 0; i < 4; i++) {
      x.show(i, 0);
    }
    Check.refused(x, "26: not over", "IllegalArgumentException", () -> x.sweep(1999));
    Check.refused(x, "26: to come", "IllegalArgumentException", () -> x.sweep(2000));
    Check.due("26: the first hour", 0, x.sweep(0));
    Check.due("26: the one before", 0, x.sweep(1998));
    x.pass(1);
    Check.due("26: over", 4, x.sweep(1999));
    Check.refused(x, "26: never over", "IllegalArgumentException", () -> x.sweep(2000));
    Check.refused(x, "26: below 0", "IllegalArgumentException", () -> x.sweep(-1));
    Check.due("26: the first hour", 0, x.sweep(0));
  }

  private static void threeAndFourInAnHour() {
    for (int showings = 0; showings <= 6; showings++) {
      GlanceMarket x = Markets.won(6);
      for (int i = 0; i < showings; i++) {
        x.show(i, 0);
      }
      x.pass(1);
      Check.due("26: of " + showings, showings > 3 ? showings : 0, x.sweep(0));
      Check.due("30: credited", showings > 3 ? 10 * showings : 0, x.credit(0));
      Check.due("31: left", showings > 3 ? 0 : 10 * showings, x.revenue(0));
    }
  }

  private static void fourInTwoHours() {
    GlanceMarket x = Markets.won(5);
    x.show(0, 0);
    for (int i = 1; i < 4; i++) {
      x.show(i, 1);
    }
    x.pass(1);
    Check.due("26: one", 0, x.sweep(0));
    x.pass(1);
    Check.due("26: three", 0, x.sweep(1));
    x.show(4, 0);
    x.pass(1);
    Check.due("26: one again", 0, x.sweep(2));
  }

  private static void sweepAgainAfterJoin() {
    GlanceMarket x = Markets.with('1', 1, 10);
    for (int id = 0; id < 6; id++) {
      Markets.shown(x, id);
    }
    x.pass(1);
    int[] due = {0, 0, 0, 4, 1, 1};
    for (int id = 1; id < 6; id++) {
      x.join(0, id);
      Check.due("26: with " + id + " joined", due[id], x.sweep(0));
      Check.due("26: and again", 0, x.sweep(0));
    }
    Check.due("30: each once", 60, x.credit(0));
  }

  private static void sweepAfterPart() {
    GlanceMarket x = Markets.with('1', 1, 10);
    x.join(0, 1);
    for (int i = 0; i < 4; i++) {
      Markets.shown(x, i % 2);
    }
    x.pass(1);
    x.part(1);
    Check.due("26: two each", 0, x.sweep(0));
    x.join(1, 0);
    Check.due("26: four again", 4, x.sweep(0));
    x.part(0);
    Check.due("26: nothing becomes valid", 'i', x.stateOf(0));
    Check.due("26: nor is swept again", 0, x.sweep(0));
  }

  private static void sweepByHourOfComing() {
    GlanceMarket x = Markets.won(5);
    for (int i = 0; i < 4; i++) {
      x.show(i, 3);
    }
    x.pass(3);
    x.show(4, 0);
    x.pass(1);
    for (int hour = 0; hour < 3; hour++) {
      Check.due("26: not in the hour " + hour, 0, x.sweep(hour));
    }
    Check.due("26: told late and at once, in one hour", 5, x.sweep(3));
  }

  private static void stateFromEachEvent() {
    GlanceMarket x = Markets.won(5);
    x.setConsent(1, 'n');
    int lost = x.request(0, 1);
    Check.due("27: nobody won", 'n', x.stateOf(lost));
    x.show(lost, 0);
    x.click(lost, 0);
    Check.due("27: nobody won, shown and clicked", 'n', x.stateOf(lost));
    x.click(0, 0);
    Check.due("27: won, clicked without ground", 'w', x.stateOf(0));
    x.show(0, 0);
    Check.due("27: charged", 'c', x.stateOf(0));
    x.show(0, 0);
    Check.due("27: charged, shown twice", 'c', x.stateOf(0));
    x.click(0, 0);
    Check.due("27: clicked", 'k', x.stateOf(0));
    x.click(0, 0);
    Check.due("27: clicked twice", 'k', x.stateOf(0));
    for (int i = 1; i < 4; i++) {
      x.show(i, 0);
    }
    x.pass(1);
    x.sweep(0);
    Check.due("27: clicked and invalid", 'i', x.stateOf(0));
    Check.due("27: invalid", 'i', x.stateOf(3));
    Check.due("27: the last one won", 'w', x.stateOf(4));
    x.forget(0);
    Check.due("27: forgotten", 'i', x.stateOf(0));
    Check.due("27: forgotten", 'w', x.stateOf(4));
  }

  private static void groundlessByEachEvent() {
    GlanceMarket x = Markets.won(1);
    Check.due("28: none", 0, x.groundless());
    for (int i = 1; i <= 10; i++) {
      x.click(0, 0);
      Check.due("28: each one of them", i, x.groundless());
    }
    Check.refused(x, "28: a refused showing", "IllegalArgumentException", () -> x.show(0, 41));
    Check.refused(x, "28: a refused click", "IndexOutOfBoundsException", () -> x.click(1, 0));
    Check.due("28: refused ones do not count", 10, x.groundless());
    x.buy(19, 1, 0);
    x.buy(19, 1, 1);
    x.forget(19);
    x.pass(1);
    Check.due("28: purchases do not count, forgotten or not", 10, x.groundless());
  }
}
