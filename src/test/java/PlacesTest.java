/** Promises 9 to 15: places with floors, blocked kinds and resellers; campaigns. */
final class PlacesTest {
  public static void main(String[] args) {
    addPlace();
    setFloor();
    block();
    addReseller();
    addCampaign();
    approve();
    setPrice();
    Check.end();
  }

  private static void addPlace() {
    GlanceMarket x = new GlanceMarket();
    Check.argument("9: auction 3", () -> x.addPlace(1, '3'));
    Check.argument("9: auction 0", () -> x.addPlace(1, '0'));
    Check.argument("9: auction by number", () -> x.addPlace(1, (char) 1));
    Check.argument("9: floor 0", () -> x.addPlace(0, '1'));
    Check.argument("9: floor 1000", () -> x.addPlace(1000, '2'));
    Check.due("9: number 0", 0, x.addPlace(1, '1'));
    Check.due("9: number 1", 1, x.addPlace(999, '2'));
    Check.due("9: floor", 1, x.setFloor(0, 2));
    Check.due("9: floor", 999, x.setFloor(1, 2));
    Check.due("9: no kinds", false, x.block(1, 0, false));
    Check.due("9: no resellers", 1, x.addReseller(1, 0, 0));
    x.addPlace(5, '1');
    x.addPlace(5, '1');
    Check.due("9: number 4", 4, x.addPlace(5, '1'));
    Check.state("9: six", () -> x.addPlace(5, '1'));
    Check.argument("9: six, but first the argument", () -> x.addPlace(0, '1'));
    Check.argument("9: six, but first the auction", () -> x.addPlace(5, 'x'));
    Check.bounds("9: not added", () -> x.revenue(5));
  }

  private static void setFloor() {
    GlanceMarket x = new GlanceMarket();
    x.addPlace(7, '1');
    x.addPlace(8, '1');
    Check.due("10: before", 7, x.setFloor(0, 999));
    Check.due("10: before", 999, x.setFloor(0, 1));
    Check.due("10: the other one", 8, x.setFloor(1, 9));
    Check.bounds("10: place 2 comes first", () -> x.setFloor(2, 0));
    Check.bounds("10: place -1", () -> x.setFloor(-1, 1));
    Check.argument("10: floor 0", () -> x.setFloor(0, 0));
    Check.argument("10: floor 1000", () -> x.setFloor(0, 1000));
    Check.due("10: nothing changed", 1, x.setFloor(0, 1));
  }

  private static void block() {
    GlanceMarket x = new GlanceMarket();
    x.addPlace(1, '1');
    x.addPlace(1, '1');
    Check.due("11: was not", false, x.block(0, 0, true));
    Check.due("11: was", true, x.block(0, 0, true));
    Check.due("11: another kind", false, x.block(0, 7, true));
    Check.due("11: another place", false, x.block(1, 7, false));
    Check.due("11: let in", true, x.block(0, 0, false));
    Check.due("11: is let in", false, x.block(0, 0, false));
    Check.due("11: the other stays", true, x.block(0, 7, true));
    Check.bounds("11: place 2 comes first", () -> x.block(2, 8, true));
    Check.bounds("11: place -1", () -> x.block(-1, 0, true));
    Check.argument("11: kind 8", () -> x.block(0, 8, true));
    Check.argument("11: kind -1", () -> x.block(0, -1, true));
    Check.argument("11: kind 32", () -> x.block(0, 32, true));
    Check.due("11: nothing changed", false, x.block(0, 0, false));
  }

  private static void addReseller() {
    GlanceMarket x = new GlanceMarket();
    x.addPlace(1, '1');
    x.addPlace(1, '1');
    Check.argument("12: reseller 6", () -> x.addReseller(0, 6, 1));
    Check.argument("12: reseller -1", () -> x.addReseller(0, -1, 1));
    Check.argument("12: percent 31", () -> x.addReseller(0, 0, 31));
    Check.argument("12: percent -1", () -> x.addReseller(0, 0, -1));
    Check.bounds("12: place 2 comes first", () -> x.addReseller(2, 6, 31));
    Check.bounds("12: place -1", () -> x.addReseller(-1, 0, 0));
    Check.due("12: one", 1, x.addReseller(0, 0, 0));
    Check.due("12: two", 2, x.addReseller(0, 5, 30));
    Check.due("12: the same one again", 3, x.addReseller(0, 5, 30));
    Check.due("12: another place", 1, x.addReseller(1, 5, 30));
    Check.state("12: four", () -> x.addReseller(0, 1, 1));
    Check.argument("12: four, but first the reseller", () -> x.addReseller(0, 6, 1));
    Check.argument("12: four, but first the percent", () -> x.addReseller(0, 0, 31));
  }

  private static void addCampaign() {
    GlanceMarket x = new GlanceMarket();
    int[][] wrong = {
      {-1, 1, 1, 1, 0}, {8, 1, 1, 1, 0}, {0, 0, 1, 1, 0}, {0, 10000, 1, 1, 0}, {0, 1, 0, 1, 0},
      {0, 1, 100000, 1, 0}, {0, 1, 1, 0, 0}, {0, 1, 1, 100, 0}, {0, 1, 1, 1, -2}, {0, 1, 1, 1, 8},
    };
    for (int[] w : wrong) {
      Check.argument("13: wrong", () -> x.addCampaign(w[0], w[1], w[2], w[3], w[4]));
    }
    Check.due("13: number 0", 0, x.addCampaign(0, 1, 1, 1, -1));
    Check.due("13: number 1", 1, x.addCampaign(7, 9999, 99999, 99, 7));
    Check.due("13: paused", false, x.approve(1, false));
    Check.due("13: price", 9999, x.setPrice(1, 1));
    Check.due("13: nothing charged", 0, x.charged(1, 0));
    for (int i = 2; i < 8; i++) {
      Check.due("13: number", i, x.addCampaign(0, 1, 1, 1, 0));
    }
    Check.state("13: nine", () -> x.addCampaign(0, 1, 1, 1, 0));
    for (int[] w : wrong) {
      Check.argument("13: nine, but first", () -> x.addCampaign(w[0], w[1], w[2], w[3], w[4]));
    }
    Check.bounds("13: not added", () -> x.credit(8));
  }

  private static void approve() {
    GlanceMarket x = new GlanceMarket();
    x.addPlace(1, '1');
    x.addCampaign(0, 1, 99, 1, -1);
    x.addCampaign(0, 1, 99, 1, -1);
    Check.due("14: paused", false, x.mayBid(0, 0, 0));
    Check.due("14: were not", false, x.approve(0, true));
    Check.due("14: were", true, x.approve(0, true));
    Check.due("14: bids", true, x.mayBid(0, 0, 0));
    Check.due("14: the other does not", false, x.mayBid(1, 0, 0));
    Check.due("14: not any more", true, x.approve(0, false));
    Check.due("14: paused again", false, x.mayBid(0, 0, 0));
    Check.due("14: are not", false, x.approve(0, false));
    Check.bounds("14: campaign 2", () -> x.approve(2, true));
    Check.bounds("14: campaign -1", () -> x.approve(-1, true));
  }

  private static void setPrice() {
    GlanceMarket x = new GlanceMarket();
    x.addPlace(1, '1');
    x.addCampaign(0, 20, 99999, 9, -1);
    x.addCampaign(0, 30, 99999, 9, -1);
    x.approve(0, true);
    int r = x.request(0, 0);
    Check.due("15: before", 20, x.setPrice(0, 9999));
    Check.due("15: before", 9999, x.setPrice(0, 1));
    Check.due("15: the other one", 30, x.setPrice(1, 31));
    Check.due("15: the request keeps its own", 20, x.priceOf(r));
    x.show(r, 0);
    Check.due("15: which is charged", 20, x.charged(0, 0));
    Check.due("15: the next one tells the new one", 1, x.priceOf(x.request(0, 1)));
    Check.bounds("15: campaign 2 comes first", () -> x.setPrice(2, 0));
    Check.bounds("15: campaign -1", () -> x.setPrice(-1, 1));
    Check.argument("15: price 0", () -> x.setPrice(0, 0));
    Check.argument("15: price 10000", () -> x.setPrice(0, 10000));
    Check.due("15: nothing changed", 1, x.setPrice(0, 1));
  }
}
