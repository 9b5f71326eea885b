/** Promises 37 to 39 at their edges: none, one and all requests won. */
final class FiguresEdgeTest {
  public static void main(String[] args) {
    shareOfNone();
    shareOfOneAndAll();
    shareOfEachNumber();
    meanOfNone();
    meanOfLeastAndGreatest();
    meanOfEachNumber();
    figuresStay();
    soundFromNewToFull();
    soundWithSegments();
    soundWithEachValue();
    Check.end();
  }

  private static void shareOfNone() {
    GlanceMarket x = Markets.with('1', 1);
    Check.refused(x, "37: no requests", "ArithmeticException", x::soldShare);
    x.request(0, 0);
    Check.due("37: none of one", 0.0f, x.soldShare());
  }

  private static void shareOfOneAndAll() {
    GlanceMarket x = Markets.with('1', 1, 5);
    for (int i = 0; i < 60; i++) {
      x.request(0, 0);
      Check.due("37: all of them", 1.0f, x.soldShare());
    }
  }

  private static void shareOfEachNumber() {
    GlanceMarket x = Markets.with('1', 1, 5);
    x.setConsent(1, 'n');
    for (int all = 1; all <= 60; all++) {
      x.request(0, all % 3 == 0 ? 0 : 1);
      Check.due("37: of " + all, (float) (all / 3) / (float) all, x.soldShare());
    }
  }

  private static void meanOfNone() {
    GlanceMarket x = Markets.with('1', 1, 5);
    Check.refused(x, "38: no requests", "ArithmeticException", x::meanPrice);
    x.setConsent(0, 'n');
    x.request(0, 0);
    Check.refused(x, "38: none was won", "ArithmeticException", x::meanPrice);
    x.request(0, 1);
    Check.due("38: one was won", 5.0, x.meanPrice());
  }

  private static void meanOfLeastAndGreatest() {
    GlanceMarket x = Markets.with('1', 1, 9999);
    for (int i = 0; i < 60; i++) {
      x.request(0, i % 20);
      Check.due("38: the greatest price", 9999.0, x.meanPrice());
    }
    GlanceMarket y = Markets.with('1', 1, 1);
    y.request(0, 0);
    Check.due("38: the least price", 1.0, y.meanPrice());
  }

  private static void meanOfEachNumber() {
    GlanceMarket x = Markets.with('1', 1, 1);
    int sum = 0;
    for (int i = 1; i <= 60; i++) {
      x.setPrice(0, i * i);
      x.request(0, 0);
      sum += i * i;
      Check.due("38: of " + i, (double) sum / (double) i, x.meanPrice());
    }
  }

  private static void figuresStay() {
    GlanceMarket x = Markets.won(4);
    x.setConsent(1, 'n');
    x.request(0, 1);
    for (int i = 0; i < 4; i++) {
      x.show(i, 0);
    }
    x.pass(1);
    Check.due("26: all four", 4, x.sweep(0));
    x.forget(0);
    Check.due("37: invalid and forgotten ones were won", 4.0f / 5.0f, x.soldShare());
    Check.due("38: invalid and forgotten ones were won", 10.0, x.meanPrice());
  }

  private static void soundFromNewToFull() {
    Check.due("39: new", true, new GlanceMarket().isSound());
    GlanceMarket x = Markets.full();
    Check.due("39: full", true, x.isSound());
    for (int place = 0; place < 5; place++) {
      x.setFloor(place, 999);
    }
    x.setPrice(0, 9999);
    x.approve(0, false);
    Check.due("39: prices and floors may change since", true, x.isSound());
    x.pass(1);
    x.sweep(0);
    Check.due("39: all invalid", true, x.isSound());
    x.forget(19);
    Check.due("39: forgotten", true, x.isSound());
  }

  private static void soundWithSegments() {
    GlanceMarket x = new GlanceMarket();
    x.addPlace(1, '1');
    x.addCampaign(0, 10, 99999, 99, 0);
    x.approve(0, true);
    x.setSegment(0, 0, true);
    Check.due("39: won by a segment", 0, x.winner(Markets.clicked(x, 0)));
    for (char consent : "lna".toCharArray()) {
      x.setConsent(0, consent);
      Check.due("39: the consent then counts, not " + consent, true, x.isSound());
    }
    x.setConsent(1, 'n');
    x.join(0, 1);
    Check.due("39: not that of one joined since", true, x.isSound());
    Check.due("39: which forbids more", -1, x.winner(x.request(0, 0)));
    x.setSegment(0, 0, false);
    Check.due("39: nor the segment since", true, x.isSound());
  }

  private static void soundWithEachValue() {
    GlanceMarket x = Markets.with('1', 1, 10);
    for (int value = 1; value <= 7; value++) {
      Markets.clicked(x, 0);
      x.buy(0, value, 0);
      Check.due("39: " + value, true, x.isSound());
    }
    x.buy(0, 9999, 1);
    Check.due("39: one on its way", true, x.isSound());
    x.pass(1);
    Check.due("39: told", true, x.isSound());
  }
}
