/** Promises 9 to 15 at their edges: the least and the greatest floor, percent, price and cap. */
final class PlacesEdgeTest {
  public static void main(String[] args) {
    leastFloor();
    greatestFloor();
    placesOfBothAuctions();
    floorOfEachPlace();
    floorIsKeptByRequests();
    blockEachKind();
    blockAllKinds();
    percentsOfNothing();
    greatestPercents();
    percentsRoundedDown();
    chainOfEachPlace();
    campaignsOfEachKind();
    leastBudgetAndCap();
    segmentOfCampaign();
    approveEachCampaign();
    leastAndGreatestPrice();
    priceOfEachCampaign();
    Check.end();
  }

  private static void leastFloor() {
    GlanceMarket x = Markets.with('1', 1, 1);
    Check.due("9: a price of 1 at a floor of 1", true, x.mayBid(0, 0, 0));
    Check.due("9: the floor", 1, x.setFloor(0, 2));
    Check.due("10: a price of 1 at a floor of 2", false, x.mayBid(0, 0, 0));
  }

  private static void greatestFloor() {
    GlanceMarket x = Markets.with('2', 999, 998, 999, 1000);
    Check.due("9: below it", false, x.mayBid(0, 0, 0));
    Check.due("9: as much as it", true, x.mayBid(1, 0, 0));
    Check.due("9: above it", true, x.mayBid(2, 0, 0));
    Check.due("9: the next one's price", 999, x.priceOf(x.request(0, 0)));
    x.approve(1, false);
    Check.due("9: the floor itself", 999, x.priceOf(x.request(0, 0)));
  }

  private static void placesOfBothAuctions() {
    GlanceMarket x = new GlanceMarket();
    x.addCampaign(0, 50, 99999, 99, -1);
    x.approve(0, true);
    for (int place = 0; place < 5; place++) {
      Check.due("9: the number", place, x.addPlace(10 + place, place % 2 == 0 ? '1' : '2'));
    }
    for (int place = 0; place < 5; place++) {
      int due = place % 2 == 0 ? 50 : 10 + place;
      Check.due("9: by its own auction", due, x.priceOf(x.request(place, 0)));
    }
    Check.refused(x, "9: a sixth one", "IllegalStateException", () -> x.addPlace(1, '1'));
  }

  private static void floorOfEachPlace() {
    GlanceMarket x = new GlanceMarket();
    for (int place = 0; place < 5; place++) {
      x.addPlace(100 + place, '1');
    }
    for (int place = 0; place < 5; place++) {
      Check.due("10: the one before", 100 + place, x.setFloor(place, 999));
      Check.due("10: the greatest one", 999, x.setFloor(place, 1));
      Check.due("10: the least one", 1, x.setFloor(place, 500));
    }
  }

  private static void floorIsKeptByRequests() {
    GlanceMarket x = Markets.with('2', 7, 20);
    int request = x.request(0, 0);
    x.setFloor(0, 999);
    Check.due("10: what it told stays", 7, x.priceOf(request));
    x.show(request, 0);
    Check.due("10: and is charged", 7, x.charged(0, 0));
  }

  private static void blockEachKind() {
    for (int kind = 0; kind < 8; kind++) {
      GlanceMarket x = Markets.with('1', 1, 5, 5, 5, 5, 5, 5, 5, 5);
      x.addPlace(1, '1');
      Check.due("11: was not", false, x.block(0, kind, true));
      for (int campaign = 0; campaign < 8; campaign++) {
        Check.due("11: kind " + campaign, campaign != kind, x.mayBid(campaign, 0, 0));
        Check.due("11: at the other place", true, x.mayBid(campaign, 1, 0));
      }
      Check.due("11: seven bid", 7, x.bids(x.request(0, 0)));
    }
  }

  private static void blockAllKinds() {
    GlanceMarket x = Markets.with('1', 1, 5, 5, 5, 5, 5, 5, 5, 5);
    for (int kind = 0; kind < 8; kind++) {
      Check.due("11: bids with " + kind + " blocked", 8 - kind, x.bids(x.request(0, 0)));
      x.block(0, kind, true);
    }
    Check.due("11: nobody is left", -1, x.winner(x.request(0, 0)));
    for (int kind = 0; kind < 8; kind++) {
      Check.due("11: was blocked", true, x.block(0, kind, false));
      Check.due("11: bids with " + kind + " let in", kind + 1, x.bids(x.request(0, 0)));
    }
  }

  private static void percentsOfNothing() {
    GlanceMarket x = Markets.with('1', 1, 9999);
    Check.due("12: 0 percents", 1, x.addReseller(0, 0, 0));
    Check.due("12: 0 percents", 2, x.addReseller(0, 5, 0));
    Markets.shown(x, 0);
    Check.due("12: all is the place's", 9999, x.revenue(0));
    Check.due("12: the first reseller's", 0, x.fees(0));
    Check.due("12: the last reseller's", 0, x.fees(5));
  }

  private static void greatestPercents() {
    GlanceMarket x = Markets.with('1', 1, 9999);
    for (int i = 1; i <= 3; i++) {
      Check.due("12: 30 percents", i, x.addReseller(0, 5, 30));
    }
    Markets.shown(x, 0);
    Check.due("12: three times 2999.7, each rounded down", 3 * 2999, x.fees(5));
    Check.due("12: the rest", 9999 - 3 * 2999, x.revenue(0));
  }

  private static void percentsRoundedDown() {
    int[][] rows = {
      // price, percent, fee
      {1, 30, 0}, {3, 30, 0}, {4, 30, 1}, {9, 10, 0}, {10, 10, 1}, {99, 1, 0}, {100, 1, 1},
      {199, 1, 1}, {200, 1, 2}, {9999, 1, 99}, {9999, 29, 2899},
    };
    for (int[] row : rows) {
      GlanceMarket x = Markets.with('1', 1, row[0]);
      x.addReseller(0, 3, row[1]);
      Markets.shown(x, 0);
      Check.due("32: " + row[1] + " percents of " + row[0], row[2], x.fees(3));
      Check.due("31: the rest of " + row[0], row[0] - row[2], x.revenue(0));
    }
  }

  private static void chainOfEachPlace() {
    GlanceMarket x = new GlanceMarket();
    for (int place = 0; place < 5; place++) {
      x.addPlace(1, '1');
    }
    for (int place = 0; place < 5; place++) {
      for (int length = 1; length <= 3; length++) {
        Check.due("12: the length", length, x.addReseller(place, 5, 30));
      }
      int full = place;
      Check.refused(x, "12: a fourth one", "IllegalStateException",
          () -> x.addReseller(full, 0, 0));
    }
  }

  private static void campaignsOfEachKind() {
    GlanceMarket x = new GlanceMarket();
    x.addPlace(1, '1');
    for (int kind = 7; kind >= 0; kind--) {
      int number = x.addCampaign(kind, 9999, 99999, 99, -1);
      Check.due("13: the number", 7 - kind, number);
      Check.due("13: paused", false, x.mayBid(number, 0, 0));
      x.approve(number, true);
      x.block(0, kind, true);
      Check.due("13: of this kind", false, x.mayBid(number, 0, 0));
      x.block(0, kind, false);
      Check.due("13: of no other", true, x.mayBid(number, 0, 0));
    }
    Check.refused(x, "13: a ninth one", "IllegalStateException",
        () -> x.addCampaign(0, 1, 1, 1, -1));
  }

  private static void leastBudgetAndCap() {
    GlanceMarket x = new GlanceMarket();
    x.addPlace(1, '1');
    x.addCampaign(0, 1, 1, 99, -1);
    x.addCampaign(0, 1, 99999, 1, -1);
    x.approve(0, true);
    Check.due("13: a budget of 1, nothing charged", true, x.mayBid(0, 0, 0));
    Markets.shown(x, 0);
    Check.due("13: a budget of 1, 1 charged", false, x.mayBid(0, 0, 1));
    x.approve(1, true);
    Markets.shown(x, 0);
    Check.due("13: a cap of 1", false, x.mayBid(1, 0, 0));
    Check.due("13: a cap of 1, another person", true, x.mayBid(1, 0, 1));
  }

  private static void segmentOfCampaign() {
    for (int segment = 0; segment < 8; segment++) {
      GlanceMarket x = new GlanceMarket();
      x.addPlace(1, '1');
      x.addCampaign(0, 1, 99999, 99, segment);
      x.addCampaign(0, 1, 99999, 99, -1);
      x.approve(0, true);
      x.approve(1, true);
      for (int other = 0; other < 8; other++) {
        x.setSegment(0, other, true);
        Check.due("13: " + segment + " by " + other, other == segment, x.mayBid(0, 0, 0));
        Check.due("13: no segment is needed", true, x.mayBid(1, 0, 0));
        x.setSegment(0, other, false);
      }
    }
  }

  private static void approveEachCampaign() {
    GlanceMarket x = new GlanceMarket();
    x.addPlace(1, '1');
    for (int campaign = 0; campaign < 8; campaign++) {
      x.addCampaign(campaign, 5, 99999, 99, -1);
    }
    Check.due("14: nobody is approved", 0, x.bids(x.request(0, 0)));
    for (int campaign = 7; campaign >= 0; campaign--) {
      Check.due("14: was not", false, x.approve(campaign, true));
      Check.due("14: the lowest one wins", campaign, x.winner(x.request(0, 0)));
    }
    Check.due("14: all bid", 8, x.bids(x.request(0, 0)));
  }

  private static void leastAndGreatestPrice() {
    GlanceMarket x = Markets.with('1', 1, 9999);
    Check.due("13: the greatest price", 9999, x.priceOf(x.request(0, 0)));
    Check.due("15: the greatest one before", 9999, x.setPrice(0, 1));
    Check.due("15: the least price", 1, x.priceOf(x.request(0, 0)));
    Check.due("15: the least one before", 1, x.setPrice(0, 9999));
    Check.due("15: the greatest price", 9999, x.priceOf(x.request(0, 0)));
  }

  private static void priceOfEachCampaign() {
    GlanceMarket x = Markets.with('1', 1, 10, 11, 12, 13, 14, 15, 16, 17);
    for (int campaign = 0; campaign < 8; campaign++) {
      Check.due("15: the one before", 10 + campaign, x.setPrice(campaign, 100 + campaign));
      int request = x.request(0, 0);
      Check.due("15: it wins now", campaign, x.winner(request));
      Check.due("15: with the new price", 100 + campaign, x.priceOf(request));
    }
  }
}
