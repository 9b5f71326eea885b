/** Promises 29 to 36 at their edges: days, all invalid, the 48 hours, what is left of a division. */
final class MoneyEdgeTest {
  private static final String MODELS = "fle";

  public static void main(String[] args) {
    chargedAtTheEndsOfDays();
    chargedInTheLastDay();
    chargedOfEachCampaign();
    chargedOnce();
    creditOfNoneAndAll();
    revenueOfEachPlace();
    feesOfEachReseller();
    chainGrowsAfterTheRequest();
    takenBackByTheSameChain();
    thanksOfTheFirstHours();
    thanksAtTheEndsOfTheWindow();
    thanksOfTheLastHours();
    thanksInTheSameHour();
    thanksOfAPurchaseToldLate();
    thanksForNone();
    thanksForOne();
    thanksDivided();
    thanksForAll();
    thanksWithoutInvalidOnes();
    thanksOfOnePersonAlone();
    thanksOfForgotten();
    thankedWithoutPurchases();
    thankedByEachCampaign();
    thankedForAllPurchases();
    paidFromNoneToAll();
    Check.end();
  }

  private static void chargedAtTheEndsOfDays() {
    GlanceMarket x = Markets.won(4);
    Markets.pass(x, 23);
    x.show(0, 0);
    x.pass(1);
    x.show(1, 0);
    x.pass(23);
    x.show(2, 0);
    x.pass(1);
    Check.due("29: the hour 23", 10, x.charged(0, 0));
    Check.due("29: the hours 24 and 47", 20, x.charged(0, 1));
    Check.due("29: the hour 48", 0, x.charged(0, 2));
    x.show(3, 0);
    Check.due("29: the hour 48, charged", 10, x.charged(0, 2));
  }

  private static void chargedInTheLastDay() {
    GlanceMarket x = Markets.won(3);
    Markets.pass(x, 1991);
    x.show(0, 0);
    x.pass(1);
    x.show(1, 0);
    x.pass(8);
    x.show(2, 0);
    Check.due("29: the hour 1991", 10, x.charged(0, 82));
    Check.due("29: the hours 1992 and 2000", 20, x.charged(0, 83));
    Check.due("29: a day that never comes", 0, x.charged(0, 84));
    Check.due("29: the greatest number", 0, x.charged(0, Integer.MAX_VALUE));
    Check.refused(x, "29: below 0", "IllegalArgumentException", () -> x.charged(0, -1));
  }

  private static void chargedOfEachCampaign() {
    GlanceMarket x = Markets.with('1', 1, 18, 17, 16, 15, 14, 13, 12, 11);
    for (int campaign = 0; campaign < 8; campaign++) {
      Check.due("29: none", 0, x.charged(campaign, 0));
      Markets.shown(x, 0);
      Check.due("29: its own", 18 - campaign, x.charged(campaign, 0));
      x.approve(campaign, false);
    }
    Check.refused(x, "29: behind the last one", "IndexOutOfBoundsException",
        () -> x.charged(8, 0));
  }

  private static void chargedOnce() {
    GlanceMarket x = Markets.won(1);
    for (int i = 0; i < 3; i++) {
      x.show(0, 0);
      x.show(0, 30);
    }
    x.pass(30);
    Check.due("29: in the first hour", 10, x.charged(0, 0));
    Check.due("29: never again", 0, x.charged(0, 1));
    Check.due("31: once", 10, x.revenue(0));
  }

  private static void creditOfNoneAndAll() {
    GlanceMarket x = Markets.full();
    Check.due("30: none", 0, x.credit(0));
    x.pass(1);
    Check.due("26: all", 60, x.sweep(0));
    Check.due("30: all", 600, x.credit(0));
    Check.due("29: not taken off", 600, x.charged(0, 0));
    for (int campaign = 1; campaign < 8; campaign++) {
      Check.due("30: of no other", 0, x.credit(campaign));
    }
    for (int place = 0; place < 5; place++) {
      Check.due("31: taken back", 0, x.revenue(place));
    }
    for (int reseller = 0; reseller < 6; reseller++) {
      Check.due("32: taken back", 0, x.fees(reseller));
    }
  }

  private static void revenueOfEachPlace() {
    GlanceMarket x = new GlanceMarket();
    x.addCampaign(0, 50, 99999, 99, -1);
    x.approve(0, true);
    for (int place = 0; place < 5; place++) {
      x.addPlace(1 + place, '2');
    }
    for (int place = 0; place < 5; place++) {
      Check.due("31: none", 0, x.revenue(place));
      x.show(x.request(place, 0), 0);
      Check.due("31: its own", 1 + place, x.revenue(place));
    }
    Check.due("36: all", 15L, x.paidAnew());
  }

  private static void feesOfEachReseller() {
    for (int reseller = 0; reseller < 6; reseller++) {
      GlanceMarket x = Markets.with('1', 1, 100);
      x.addReseller(0, reseller, 7);
      Markets.shown(x, 0);
      for (int other = 0; other < 6; other++) {
        Check.due("32: of " + other, other == reseller ? 7 : 0, x.fees(other));
      }
      Check.due("31: the rest", 93, x.revenue(0));
    }
  }

  private static void chainGrowsAfterTheRequest() {
    GlanceMarket x = Markets.with('1', 1, 100);
    for (int length = 0; length <= 3; length++) {
      x.request(0, 0);
      if (length < 3) {
        x.addReseller(0, length, 10);
      }
    }
    for (int request = 0; request < 4; request++) {
      int before = x.revenue(0);
      x.show(request, 0);
      Check.due("31: by a chain of " + request, 100 - 10 * request, x.revenue(0) - before);
    }
    Check.due("32: there for three", 30, x.fees(0));
    Check.due("32: there for two", 20, x.fees(1));
    Check.due("32: there for one", 10, x.fees(2));
  }

  private static void takenBackByTheSameChain() {
    GlanceMarket x = Markets.with('1', 1, 99);
    x.addReseller(0, 4, 30);
    for (int i = 0; i < 4; i++) {
      x.request(0, 0);
    }
    x.addReseller(0, 5, 30);
    for (int i = 0; i < 4; i++) {
      x.show(i, 0);
    }
    Check.due("32: four times 29.7, each rounded down", 116, x.fees(4));
    x.pass(1);
    x.sweep(0);
    Check.due("32: all of it", 0, x.fees(4));
    Check.due("32: none was taken", 0, x.fees(5));
    Check.due("31: all of it", 0, x.revenue(0));
  }

  private static void thanksOfTheFirstHours() {
    GlanceMarket x = Markets.with('1', 1, 10);
    int request = Markets.clicked(x, 0);
    for (int hour = 0; hour <= 48; hour += 47) {
      int purchase = x.buy(0, 5, 0);
      Check.due("33: of the hour 0 in the hour " + hour, 5, x.thanks(purchase, request, 'f'));
      x.pass(47);
    }
  }

  private static void thanksAtTheEndsOfTheWindow() {
    GlanceMarket x = Markets.with('1', 1, 10);
    x.pass(10);
    int[] requests = new int[3];
    for (int i = 0; i < 3; i++) {
      requests[i] = Markets.clicked(x, 0);
      x.pass(1);
    }
    x.pass(46);
    // The requests came in the hours 10 to 12; this is the hour 59, whose 48 hours begin with 12.
    int purchase = x.buy(0, 9, 0);
    Check.due("33: 49 hours ago", 0, x.thanks(purchase, requests[0], 'f'));
    Check.due("33: 48 hours ago", 0, x.thanks(purchase, requests[1], 'f'));
    Check.due("33: 47 hours ago", 9, x.thanks(purchase, requests[2], 'f'));
    Check.due("33: it alone", 9, x.thanks(purchase, requests[2], 'e'));
  }

  private static void thanksOfTheLastHours() {
    GlanceMarket x = Markets.with('1', 1, 10);
    Markets.pass(x, 1952);
    int early = Markets.clicked(x, 0);
    x.pass(1);
    int late = Markets.clicked(x, 0);
    x.pass(47);
    int purchase = x.buy(0, 3, 0);
    Check.due("33: of the hour 1952 in the hour 2000", 0, x.thanks(purchase, early, 'f'));
    Check.due("33: of the hour 1953 in the hour 2000", 3, x.thanks(purchase, late, 'f'));
  }

  private static void thanksInTheSameHour() {
    GlanceMarket x = Markets.with('1', 1, 10);
    x.pass(1);
    int ahead = Markets.clicked(x, 0);
    int purchase = x.buy(0, 5, 0);
    int behind = Markets.clicked(x, 0);
    x.pass(1);
    int after = Markets.clicked(x, 0);
    Check.due("33: ahead of it", 5, x.thanks(purchase, ahead, 'f'));
    Check.due("33: behind it", 5, x.thanks(purchase, behind, 'l'));
    Check.due("33: half of it, rounded down", 2, x.thanks(purchase, ahead, 'e'));
    Check.due("33: and what is left", 3, x.thanks(purchase, behind, 'e'));
    for (char model : MODELS.toCharArray()) {
      Check.due("33: an hour after it", 0, x.thanks(purchase, after, model));
    }
  }

  private static void thanksOfAPurchaseToldLate() {
    GlanceMarket x = Markets.with('1', 1, 10);
    int old = Markets.clicked(x, 0);
    x.pass(47);
    int purchase = x.buy(0, 5, 40);
    int behind = Markets.clicked(x, 0);
    x.pass(1);
    int after = Markets.clicked(x, 0);
    x.pass(39);
    Check.due("33: 47 hours ahead of when it happened", 5, x.thanks(purchase, old, 'f'));
    Check.due("33: in the hour in which it happened", 5, x.thanks(purchase, behind, 'l'));
    Check.due("33: on its way, but after it", 0, x.thanks(purchase, after, 'l'));
  }

  private static void thanksForNone() {
    GlanceMarket x = Markets.won(4);
    x.setConsent(1, 'n');
    int lost = x.request(0, 1);
    x.show(1, 0);
    x.show(2, 0);
    x.click(2, 1);
    x.show(3, 1);
    x.click(3, 0);
    x.buy(0, 9999, 0);
    x.buy(1, 9999, 0);
    for (char model : MODELS.toCharArray()) {
      Check.due("33: not shown", 0, x.thanks(0, 0, model));
      Check.due("33: not clicked", 0, x.thanks(0, 1, model));
      Check.due("33: the click is on its way", 0, x.thanks(0, 2, model));
      Check.due("33: the showing is on its way", 0, x.thanks(0, 3, model));
      Check.due("33: nobody won", 0, x.thanks(1, lost, model));
      Check.due("34: nothing", 0, x.thanked(0, model));
    }
    Check.due("39: 0 is sound", true, x.isSound());
  }

  private static void thanksForOne() {
    GlanceMarket x = Markets.with('1', 1, 10);
    int request = Markets.clicked(x, 19);
    x.buy(19, 9999, 0);
    for (char model : MODELS.toCharArray()) {
      Check.due("33: the whole value", 9999, x.thanks(0, request, model));
    }
  }

  private static void thanksDivided() {
    int[][] rows = {
      // value, requests, each, the latest
      {1, 2, 0, 1}, {2, 2, 1, 1}, {3, 2, 1, 2}, {2, 3, 0, 2}, {3, 3, 1, 1}, {5, 3, 1, 3},
      {4, 5, 0, 4}, {9999, 7, 1428, 1431}, {10, 9, 1, 2}, {9999, 10, 999, 1008},
    };
    for (int[] row : rows) {
      GlanceMarket x = Markets.with('1', 1, 10);
      for (int i = 0; i < row[1]; i++) {
        Markets.clicked(x, 0);
      }
      x.buy(0, row[0], 0);
      for (int i = 0; i < row[1]; i++) {
        int due = i == row[1] - 1 ? row[3] : row[2];
        Check.due("33: " + row[0] + " by " + row[1] + " to " + i, due, x.thanks(0, i, 'e'));
      }
      Check.due("34: all of " + row[0], row[0], x.thanked(0, 'e'));
    }
  }

  private static void thanksForAll() {
    GlanceMarket x = Markets.full();
    for (int request = 0; request < 60; request++) {
      Check.due("33: first", request == 0 ? 9999 : 0, x.thanks(19, request, 'f'));
      Check.due("33: latest", request == 59 ? 9999 : 0, x.thanks(19, request, 'l'));
      Check.due("33: 166 each, 39 left", request == 59 ? 205 : 166, x.thanks(19, request, 'e'));
    }
  }

  private static void thanksWithoutInvalidOnes() {
    GlanceMarket x = Markets.with('1', 1, 10);
    for (int i = 0; i < 4; i++) {
      Markets.clicked(x, 0);
    }
    x.pass(1);
    int valid = Markets.clicked(x, 0);
    x.buy(0, 100, 0);
    Check.due("33: the latest of five", 20, x.thanks(0, valid, 'e'));
    Check.due("33: not the earliest", 0, x.thanks(0, valid, 'f'));
    x.sweep(0);
    Check.due("33: the only one", 100, x.thanks(0, valid, 'e'));
    Check.due("33: the earliest now", 100, x.thanks(0, valid, 'f'));
    Check.due("33: not any more", 0, x.thanks(0, 0, 'f'));
  }

  private static void thanksOfOnePersonAlone() {
    GlanceMarket x = Markets.with('1', 1, 10);
    int first = Markets.clicked(x, 0);
    int last = Markets.clicked(x, 19);
    x.buy(0, 7, 0);
    Check.due("33: of another person", 0, x.thanks(0, last, 'l'));
    x.join(0, 19);
    Check.due("33: joined since", 7, x.thanks(0, last, 'l'));
    Check.due("33: each of both", 3, x.thanks(0, first, 'e'));
    Check.due("33: the latest of both", 4, x.thanks(0, last, 'e'));
    x.part(0);
    Check.due("33: the purchase goes with its id", 7, x.thanks(0, first, 'l'));
    Check.due("33: the request with its own", 0, x.thanks(0, last, 'l'));
  }

  private static void thanksOfForgotten() {
    GlanceMarket x = Markets.with('1', 1, 10);
    int gone = Markets.clicked(x, 0);
    int own = Markets.clicked(x, 19);
    x.buy(0, 5, 0);
    x.buy(19, 6, 0);
    x.forget(0);
    Check.refused(x, "33: its purchase", "UnsupportedOperationException",
        () -> x.thanks(0, gone, 'f'));
    Check.refused(x, "33: whichever request", "UnsupportedOperationException",
        () -> x.thanks(0, own, 'f'));
    Check.refused(x, "33: the model comes first", "IllegalArgumentException",
        () -> x.thanks(0, own, 'g'));
    Check.due("33: its request", 0, x.thanks(1, gone, 'f'));
    Check.due("33: the other's", 6, x.thanks(1, own, 'f'));
    Check.due("34: the other's alone", 6, x.thanked(0, 'f'));
  }

  private static void thankedWithoutPurchases() {
    GlanceMarket x = Markets.with('1', 1, 10);
    Markets.clicked(x, 0);
    for (char model : MODELS.toCharArray()) {
      Check.due("34: none", 0, x.thanked(0, model));
    }
    x.buy(0, 5, 1);
    for (char model : MODELS.toCharArray()) {
      Check.due("34: on its way", 0, x.thanked(0, model));
    }
    x.pass(1);
    for (char model : MODELS.toCharArray()) {
      Check.due("34: told", 5, x.thanked(0, model));
    }
  }

  private static void thankedByEachCampaign() {
    GlanceMarket x = Markets.with('1', 1, 8, 7, 6, 5, 4, 3, 2, 1);
    for (int campaign = 0; campaign < 8; campaign++) {
      Check.due("34: who won", campaign, x.winner(Markets.clicked(x, 0)));
      x.approve(campaign, false);
    }
    x.buy(0, 85, 0);
    for (int campaign = 0; campaign < 8; campaign++) {
      Check.due("34: the earliest", campaign == 0 ? 85 : 0, x.thanked(campaign, 'f'));
      Check.due("34: the latest", campaign == 7 ? 85 : 0, x.thanked(campaign, 'l'));
      Check.due("34: each", campaign == 7 ? 15 : 10, x.thanked(campaign, 'e'));
    }
  }

  private static void thankedForAllPurchases() {
    GlanceMarket x = Markets.full();
    for (char model : MODELS.toCharArray()) {
      Check.due("34: the winner", 20 * 9999, x.thanked(0, model));
      Check.due("34: the last one", 0, x.thanked(7, model));
    }
    x.forget(19);
    Check.due("34: forgotten", 0, x.thanked(0, 'e'));
  }

  private static void paidFromNoneToAll() {
    GlanceMarket x = Markets.with('1', 1, 9999);
    x.addReseller(0, 0, 30);
    x.addReseller(0, 5, 30);
    paidIs(x, 0);
    for (int i = 1; i <= 60; i++) {
      Markets.clicked(x, 0);
      // One showing is above the pace of the first hours: the next one waits for the next day.
      x.pass(24);
      paidIs(x, 9999L * i);
    }
    Check.due("39: sound", true, x.isSound());
  }

  private static void paidIs(GlanceMarket x, long due) {
    Check.due("35: " + due, due, x.paid());
    Check.due("36: " + due, due, x.paidAnew());
  }
}
