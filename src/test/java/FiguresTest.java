/** Promises 37 to 39: the figures and the check of the whole. */
final class FiguresTest {
  public static void main(String[] args) {
    soldShare();
    meanPrice();
    isSound();
    Check.end();
  }

  private static void soldShare() {
    GlanceMarket x = new GlanceMarket();
    Check.arithmetic("37: no requests", x::soldShare);
    x.addPlace(1, '1');
    x.addCampaign(0, 10, 99999, 99, -1);
    x.request(0, 0);
    Check.due("37: none of one", 0.0f, x.soldShare());
    x.approve(0, true);
    x.request(0, 0);
    x.request(0, 0);
    Check.due("37: two of three", 2.0f / 3.0f, x.soldShare());
    x.show(1, 0);
    Check.due("37: shown or not", 2.0f / 3.0f, x.soldShare());
  }

  private static void meanPrice() {
    GlanceMarket x = new GlanceMarket();
    Check.arithmetic("38: no requests", x::meanPrice);
    x.addPlace(1, '2');
    x.addCampaign(0, 10, 99999, 99, -1);
    x.request(0, 0);
    Check.arithmetic("38: no request that was won", x::meanPrice);
    x.approve(0, true);
    x.request(0, 0);
    Check.due("38: the price of the request", 1.0, x.meanPrice());
    x.setFloor(0, 7);
    x.request(0, 0);
    x.setFloor(0, 3);
    x.request(0, 0);
    Check.due("38: of three", 11.0 / 3.0, x.meanPrice());
    x.forget(0);
    Check.due("38: forgotten or not", 11.0 / 3.0, x.meanPrice());
    GlanceMarket y = new GlanceMarket();
    y.addPlace(1, '1');
    y.addCampaign(0, 9999, 99999, 99, -1);
    y.approve(0, true);
    y.request(0, 0);
    y.setPrice(0, 1);
    y.request(0, 0);
    Check.due("38: the first one counts", 5000.0, y.meanPrice());
    y.show(0, 0);
    y.show(1, 0);
    Check.due("37: all", 1.0f, y.soldShare());
  }

  private static void isSound() {
    GlanceMarket x = new GlanceMarket();
    Check.due("39: new", true, x.isSound());
    x.addPlace(1, '1');
    x.addReseller(0, 1, 17);
    x.addCampaign(0, 33, 99999, 99, 2);
    x.approve(0, true);
    x.setSegment(0, 2, true);
    for (int i = 0; i < 5; i++) {
      x.request(0, 0);
      x.show(i, 0);
      x.click(i, 0);
      Check.due("39: charged", true, x.isSound());
    }
    x.setConsent(0, 'n');
    Check.due("39: the consent that was given then", true, x.isSound());
    x.buy(0, 101, 0);
    x.buy(1, 101, 0);
    x.buy(0, 101, 9);
    Check.due("39: thanks", true, x.isSound());
    x.pass(1);
    x.sweep(0);
    Check.due("39: swept", true, x.isSound());
    x.forget(0);
    Check.due("39: forgotten", true, x.isSound());
    x.pass(9);
    Check.due("39: told of a forgotten one", true, x.isSound());
  }
}
