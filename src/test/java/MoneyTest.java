/** Promises 29 to 36: charges, credits, revenue, fees and thanks. */
final class MoneyTest {
  public static void main(String[] args) {
    charged();
    credit();
    revenueAndFees();
    chainAsItWas();
    thanksByModel();
    thanksByWindow();
    thanksByPerson();
    thanksOnlyForWhatCounts();
    thanksThrows();
    thanked();
    paid();
    Check.end();
  }

  /** A market with one place and two approved campaigns, of which the first one wins. */
  private static GlanceMarket market() {
    GlanceMarket x = new GlanceMarket();
    x.addPlace(1, '1');
    for (int i = 0; i < 2; i++) {
      x.addCampaign(i, 20 - i, 99999, 99, -1);
      x.approve(i, true);
    }
    return x;
  }

  private static void charged() {
    GlanceMarket x = market();
    for (int i = 0; i < 4; i++) {
      Markets.clicked(x, 0);
    }
    x.pass(24);
    x.sweep(0);
    Markets.clicked(x, 0);
    Check.due("29: credits are not taken off", 80, x.charged(0, 0));
    Check.due("29: of the day", 20, x.charged(0, 1));
    Check.due("29: a day to come", 0, x.charged(0, 2));
    Check.due("29: the last day", 0, x.charged(0, 83));
    Check.due("29: a day that never comes", 0, x.charged(0, 84));
    Check.due("29: the greatest day", 0, x.charged(0, Integer.MAX_VALUE));
    Check.due("29: of the campaign", 0, x.charged(1, 0));
    Check.bounds("29: campaign 2 comes first", () -> x.charged(2, -1));
    Check.bounds("29: campaign -1", () -> x.charged(-1, 0));
    Check.argument("29: day -1", () -> x.charged(0, -1));
  }

  private static void credit() {
    GlanceMarket x = market();
    for (int i = 0; i < 4; i++) {
      Markets.clicked(x, 0);
    }
    Check.due("30: none", 0, x.credit(0));
    x.pass(1);
    x.sweep(0);
    Check.due("30: four", 80, x.credit(0));
    Check.due("30: of the campaign", 0, x.credit(1));
    for (int i = 0; i < 5; i++) {
      Markets.clicked(x, 0);
    }
    x.pass(1);
    x.sweep(1);
    Check.due("30: five more", 180, x.credit(0));
    Check.bounds("30: campaign 2", () -> x.credit(2));
    Check.bounds("30: campaign -1", () -> x.credit(-1));
  }

  private static void revenueAndFees() {
    GlanceMarket x = market();
    x.addPlace(1, '1');
    x.addReseller(0, 5, 30);
    x.addReseller(0, 0, 7);
    x.addReseller(0, 5, 13);
    x.setPrice(0, 99);
    Markets.clicked(x, 0);
    // 29.7, 6.93 and 12.87, each rounded down by itself
    Check.due("31: the rest", 99 - 29 - 6 - 12, x.revenue(0));
    Check.due("32: twice in the chain", 29 + 12, x.fees(5));
    Check.due("32: once", 6, x.fees(0));
    Check.due("32: not in it", 0, x.fees(1));
    Check.due("31: another place", 0, x.revenue(1));
    for (int i = 0; i < 3; i++) {
      Markets.clicked(x, 0);
    }
    x.pass(1);
    x.sweep(0);
    Check.due("31: taken back", 0, x.revenue(0));
    Check.due("32: taken back", 0, x.fees(5));
    Check.due("32: taken back", 0, x.fees(0));
    x.request(1, 0);
    x.show(4, 0);
    Check.due("31: without a chain", 99, x.revenue(1));
    Check.bounds("31: place 2", () -> x.revenue(2));
    Check.bounds("31: place -1", () -> x.revenue(-1));
    Check.bounds("32: reseller 6", () -> x.fees(6));
    Check.bounds("32: reseller -1", () -> x.fees(-1));
  }

  private static void chainAsItWas() {
    GlanceMarket x = market();
    x.setPrice(0, 100);
    x.request(0, 0);
    x.addReseller(0, 1, 10);
    x.request(0, 0);
    x.addReseller(0, 2, 20);
    x.show(0, 0);
    Check.due("31: no chain then", 100, x.revenue(0));
    x.show(1, 0);
    Check.due("31: a chain of one then", 190, x.revenue(0));
    Check.due("32: was there", 10, x.fees(1));
    Check.due("32: came later", 0, x.fees(2));
    Markets.clicked(x, 0);
    Check.due("32: both", 20, x.fees(1));
    Check.due("32: both", 20, x.fees(2));
  }

  private static void thanksByModel() {
    GlanceMarket x = market();
    int first = Markets.clicked(x, 0);
    int middle = Markets.clicked(x, 0);
    int last = Markets.clicked(x, 0);
    x.buy(0, 101, 0);
    thanksAre(x, 0, 'f', 101, 0, 0);
    thanksAre(x, 0, 'l', 0, 0, 101);
    thanksAre(x, 0, 'e', 33, 33, 35);
    x.buy(0, 2, 0);
    thanksAre(x, 1, 'e', 0, 0, 2);
    x.buy(0, 3, 0);
    thanksAre(x, 2, 'e', 1, 1, 1);
    Check.due("33: numbers", 3, first + middle + last);
    int behind = Markets.clicked(x, 0);
    Check.due("33: behind it in this hour", 101, x.thanks(0, behind, 'l'));
    Check.due("33: as it is when asked", 25, x.thanks(0, first, 'e'));
    Check.due("33: as it is when asked", 26, x.thanks(0, behind, 'e'));
    x.pass(1);
    int later = Markets.clicked(x, 0);
    Check.due("33: an hour later", 0, x.thanks(0, later, 'l'));
    Check.due("33: the latest is the latest by number", 101, x.thanks(0, behind, 'l'));
  }

  private static void thanksAre(GlanceMarket x, int purchase, char model, int... due) {
    for (int i = 0; i < due.length; i++) {
      Check.due("33: " + model + " of " + i, due[i], x.thanks(purchase, i, model));
    }
  }

  private static void thanksByWindow() {
    GlanceMarket x = market();
    int old = x.request(0, 0);
    x.pass(1);
    int young = x.request(0, 0);
    x.pass(46);
    x.show(old, 0);
    x.show(young, 0);
    x.click(old, 0);
    x.click(young, 0);
    x.buy(0, 10, 0);
    Check.due("33: 47 hours ago", 10, x.thanks(0, old, 'f'));
    x.pass(1);
    x.buy(0, 10, 0);
    x.buy(0, 10, 2);
    Check.due("33: 48 hours ago", 0, x.thanks(1, old, 'f'));
    Check.due("33: by the request, not the showing", 10, x.thanks(1, young, 'f'));
    x.pass(2);
    Check.due("33: it happened when it was told about", 10, x.thanks(2, young, 'f'));
    int late = x.request(0, 0);
    x.buy(0, 7, 0);
    x.pass(1);
    Check.due("33: not shown yet", 0, x.thanks(3, late, 'l'));
    x.show(late, 0);
    x.click(late, 0);
    Check.due("33: shown since", 7, x.thanks(3, late, 'l'));
  }

  private static void thanksByPerson() {
    GlanceMarket x = market();
    int one = Markets.clicked(x, 1);
    int two = Markets.clicked(x, 2);
    x.buy(2, 10, 0);
    Check.due("33: another person", 0, x.thanks(0, one, 'f'));
    Check.due("33: its own", 10, x.thanks(0, two, 'f'));
    x.join(1, 2);
    Check.due("33: joined", 10, x.thanks(0, one, 'f'));
    Check.due("33: joined", 5, x.thanks(0, two, 'e'));
    x.part(2);
    Check.due("33: parted", 0, x.thanks(0, one, 'e'));
    x.forget(1);
    x.join(1, 2);
    Check.due("33: forgotten, then joined", 0, x.thanks(0, one, 'e'));
    Check.due("33: the other's purchase stays", 10, x.thanks(0, two, 'e'));
  }

  private static void thanksOnlyForWhatCounts() {
    GlanceMarket x = market();
    int shown = x.request(0, 0);
    x.show(shown, 0);
    int onItsWay = x.request(0, 0);
    x.show(onItsWay, 0);
    x.click(onItsWay, 1);
    x.buy(0, 10, 0);
    Check.due("33: no click", 0, x.thanks(0, shown, 'f'));
    Check.due("33: a click that did not come", 0, x.thanks(0, onItsWay, 'f'));
    Markets.clicked(x, 0);
    Markets.clicked(x, 0);
    x.pass(1);
    Check.due("33: the click came", 10, x.thanks(0, onItsWay, 'f'));
    Check.due("33: four in an hour", 4, x.sweep(0));
    Check.due("33: invalid", 0, x.thanks(0, onItsWay, 'f'));
    Check.due("33: invalid", 0, x.thanked(0, 'e'));
  }

  private static void thanksThrows() {
    GlanceMarket x = market();
    int request = Markets.clicked(x, 0);
    x.buy(0, 10, 1);
    Check.bounds("33: purchase 1 comes first", () -> x.thanks(1, request, 'x'));
    Check.bounds("33: purchase -1", () -> x.thanks(-1, request, 'f'));
    Check.bounds("33: request 1 comes first", () -> x.thanks(0, 1, 'x'));
    Check.bounds("33: request -1", () -> x.thanks(0, -1, 'f'));
    Check.argument("33: the model comes next", () -> x.thanks(0, request, 'x'));
    Check.argument("33: the model comes next", () -> x.thanks(0, request, 'a'));
    Check.unsupported("33: on its way", () -> x.thanks(0, request, 'f'));
    x.pass(1);
    Check.due("33: told", 10, x.thanks(0, request, 'f'));
    x.forget(0);
    Check.unsupported("33: forgotten", () -> x.thanks(0, request, 'e'));
    Check.argument("33: forgotten, but first the model", () -> x.thanks(0, request, 'x'));
    x.buy(0, 5, 1);
    Check.unsupported("33: on its way", () -> x.thanks(1, request, 'l'));
    x.pass(1);
    Check.due("33: a new person has no thanks to give", 0, x.thanks(1, request, 'l'));
  }

  private static void thanked() {
    GlanceMarket x = market();
    int first = Markets.clicked(x, 0);
    x.approve(0, false);
    int second = Markets.clicked(x, 0);
    Check.due("34: who won", 0, x.winner(first));
    Check.due("34: who won", 1, x.winner(second));
    x.buy(0, 11, 0);
    x.buy(0, 100, 1);
    Check.due("34: f", 11, x.thanked(0, 'f'));
    Check.due("34: f", 0, x.thanked(1, 'f'));
    Check.due("34: l", 0, x.thanked(0, 'l'));
    Check.due("34: l", 11, x.thanked(1, 'l'));
    Check.due("34: e", 5, x.thanked(0, 'e'));
    Check.due("34: e", 6, x.thanked(1, 'e'));
    x.pass(1);
    Check.due("34: all that were told", 111, x.thanked(0, 'f'));
    Check.due("34: all that were told", 56, x.thanked(1, 'e'));
    Check.bounds("34: campaign 2 comes first", () -> x.thanked(2, 'x'));
    Check.bounds("34: campaign -1", () -> x.thanked(-1, 'f'));
    Check.argument("34: model", () -> x.thanked(0, 'x'));
    Check.argument("34: model", () -> x.thanked(0, 'F'));
  }

  private static void paid() {
    GlanceMarket x = market();
    Check.due("35: nothing", 0L, x.paid());
    Check.due("36: nothing", 0L, x.paidAnew());
    x.addReseller(0, 3, 25);
    x.addReseller(0, 0, 10);
    x.addReseller(0, 5, 5);
    x.addPlace(1, '1');
    for (int i = 0; i < 4; i++) {
      Markets.clicked(x, 0);
    }
    x.approve(0, false);
    x.request(1, 1);
    x.show(4, 0);
    x.request(1, 1);
    Check.due("35: all campaigns", 99L, x.paid());
    Check.due("36: all places and resellers", 99L, x.paidAnew());
    Check.due("36: of which fees", 20, x.fees(3));
    Check.due("36: of which fees", 8, x.fees(0));
    Check.due("36: of which fees", 4, x.fees(5));
    x.pass(24);
    x.sweep(0);
    Check.due("35: credits taken off", 19L, x.paid());
    Check.due("36: taken back", 19L, x.paidAnew());
    x.show(5, 0);
    Check.due("35: another day", 38L, x.paid());
    Check.due("36: another day", 38L, x.paidAnew());
  }
}
