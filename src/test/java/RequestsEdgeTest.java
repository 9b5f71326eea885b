/** Promises 16 to 21 at their edges: none and all bid; the floor, the budget, its pacing, the cap. */
final class RequestsEdgeTest {
  public static void main(String[] args) {
    sixtyRequests();
    refusedRequestIsNotMade();
    winnerWithoutCampaigns();
    winnerOfEqualPrices();
    winnerAtTheFloor();
    nextPriceWithoutNext();
    nextPriceOfEqualPrices();
    greatestPriceByAuction();
    priceOfLostRequest();
    bidsFromNoneToAll();
    bidderAtBothEnds();
    mayBidWhenFull();
    mayBidByConsentAndSegment();
    mayBidBySegmentOfAnyId();
    budgetIsSpent();
    paceOfEachHour();
    paceIsRoundedDown();
    paceOfGreatestBudget();
    chargesOfYesterday();
    chargesOfTheLastHour();
    budgetAfterCredits();
    capAtItsLimit();
    capOfTheDayOfComing();
    capOfOneCampaignAndPerson();
    capWithoutInvalidOnes();
    greatestCap();
    Check.end();
  }

  private static GlanceMarket limited(int price, int budget, int cap) {
    GlanceMarket x = new GlanceMarket();
    x.addPlace(1, '1');
    x.addCampaign(0, price, budget, cap, -1);
    x.approve(0, true);
    return x;
  }

  private static void sixtyRequests() {
    GlanceMarket x = Markets.with('1', 1, 5);
    for (int i = 0; i < 60; i++) {
      Check.due("16: the number", i, x.request(0, 19 - i % 20));
    }
    Check.refused(x, "16: one more", "IllegalStateException", () -> x.request(0, 0));
    Check.due("17: the first one", 0, x.winner(0));
    Check.due("17: the last one", 0, x.winner(59));
    Check.refused(x, "17: behind the last one", "IndexOutOfBoundsException", () -> x.winner(60));
    x.forget(0);
    Check.refused(x, "16: forgotten ones make no room", "IllegalStateException",
        () -> x.request(0, 0));
  }

  private static void refusedRequestIsNotMade() {
    GlanceMarket x = Markets.with('1', 1, 5);
    Check.refused(x, "16: no such place", "IndexOutOfBoundsException", () -> x.request(1, 0));
    Check.refused(x, "16: no such id", "IndexOutOfBoundsException", () -> x.request(0, 20));
    Check.due("16: the next one is the first", 0, x.request(0, 19));
  }

  private static void winnerWithoutCampaigns() {
    GlanceMarket x = Markets.with('2', 1);
    int request = x.request(0, 0);
    Check.due("17: nobody", -1, x.winner(request));
    Check.due("19: no bids", 0, x.bids(request));
    Check.refused(x, "18: no price", "NoSuchElementException", () -> x.priceOf(request));
    Check.refused(x, "20: no bidder", "NoSuchElementException", () -> x.bidder(request, 0));
  }

  private static void winnerOfEqualPrices() {
    GlanceMarket x = Markets.with('1', 5, 5, 5, 5, 5, 5, 5, 5, 5);
    for (int campaign = 0; campaign < 8; campaign++) {
      Check.due("17: the lowest number", campaign, x.winner(x.request(0, 0)));
      x.approve(campaign, false);
    }
    Check.due("17: nobody is left", -1, x.winner(x.request(0, 0)));
  }

  private static void winnerAtTheFloor() {
    GlanceMarket x = Markets.with('1', 20, 20);
    Check.due("17: at the floor", 0, x.winner(x.request(0, 0)));
    x.setFloor(0, 21);
    Check.due("17: one below the floor", -1, x.winner(x.request(0, 0)));
    Check.due("21: one below the floor", false, x.mayBid(0, 0, 0));
    x.setPrice(0, 21);
    Check.due("21: at the floor again", true, x.mayBid(0, 0, 0));
  }

  private static void nextPriceWithoutNext() {
    GlanceMarket x = Markets.with('2', 20, 9999, 19);
    Check.due("18: the other does not bid", 20, x.priceOf(x.request(0, 0)));
    x.setPrice(1, 20);
    Check.due("18: the other bids the floor", 20, x.priceOf(x.request(0, 0)));
    x.setPrice(1, 21);
    Check.due("18: the other bids one more", 21, x.priceOf(x.request(0, 0)));
    x.setPrice(1, 9999);
    Check.due("18: the other bids as much", 9999, x.priceOf(x.request(0, 0)));
  }

  private static void nextPriceOfEqualPrices() {
    GlanceMarket x = Markets.with('2', 1, 7, 9, 9, 8);
    int request = x.request(0, 0);
    Check.due("17: the first of both", 1, x.winner(request));
    Check.due("18: the other's price", 9, x.priceOf(request));
  }

  private static void greatestPriceByAuction() {
    Check.due("18: its own", 9999, priceOfFirst('1'));
    Check.due("18: of the next one", 9998, priceOfFirst('2'));
  }

  private static int priceOfFirst(char auction) {
    GlanceMarket x = Markets.with(auction, 1, 9998, 1, 9999);
    return x.priceOf(x.request(0, 0));
  }

  private static void priceOfLostRequest() {
    GlanceMarket x = Markets.with('1', 10, 9);
    int lost = x.request(0, 0);
    x.setPrice(0, 10);
    Check.refused(x, "18: nobody won then", "NoSuchElementException", () -> x.priceOf(lost));
    Check.due("17: nor since", -1, x.winner(lost));
    Check.due("18: the next one", 10, x.priceOf(x.request(0, 0)));
  }

  private static void bidsFromNoneToAll() {
    GlanceMarket x = Markets.with('1', 1, 1, 2, 3, 4, 5, 6, 7, 8);
    for (int floor = 1; floor <= 9; floor++) {
      x.setFloor(0, floor);
      int request = x.request(0, 0);
      Check.due("19: at the floor " + floor, 9 - floor, x.bids(request));
      for (int index = 0; index < 9 - floor; index++) {
        Check.due("20: the greater prices first", 7 - index, x.bidder(request, index));
      }
    }
  }

  private static void bidderAtBothEnds() {
    GlanceMarket x = Markets.with('1', 1, 5, 6, 5, 6, 5, 6, 5, 6);
    int request = x.request(0, 0);
    Check.refused(x, "20: ahead of the first", "NoSuchElementException",
        () -> x.bidder(request, -1));
    Check.due("20: the first", 1, x.bidder(request, 0));
    Check.due("20: the last of the greater ones", 7, x.bidder(request, 3));
    Check.due("20: the first of the smaller ones", 0, x.bidder(request, 4));
    Check.due("20: the last", 6, x.bidder(request, 7));
    Check.refused(x, "20: behind the last", "NoSuchElementException",
        () -> x.bidder(request, 8));
    Check.refused(x, "20: the request comes first", "IndexOutOfBoundsException",
        () -> x.bidder(request + 1, 8));
  }

  private static void mayBidWhenFull() {
    GlanceMarket x = Markets.full();
    Check.due("21: the last campaign, place and id", true, x.mayBid(7, 4, 19));
    Check.refused(x, "21: behind the last campaign", "IndexOutOfBoundsException",
        () -> x.mayBid(8, 4, 19));
    Check.refused(x, "21: behind the last place", "IndexOutOfBoundsException",
        () -> x.mayBid(7, 5, 19));
    Check.refused(x, "21: behind the last id", "IndexOutOfBoundsException",
        () -> x.mayBid(7, 4, 20));
  }

  private static void mayBidByConsentAndSegment() {
    GlanceMarket x = Markets.with('1', 1, 5);
    x.addCampaign(1, 5, 99999, 99, 7);
    x.approve(1, true);
    for (char consent : "aln".toCharArray()) {
      for (boolean isIn : new boolean[] {false, true}) {
        x.setConsent(19, consent);
        x.setSegment(19, 7, isIn);
        Check.due("21: without segment by " + consent, consent != 'n', x.mayBid(0, 0, 19));
        Check.due("21: with segment by " + consent, consent == 'a' && isIn, x.mayBid(1, 0, 19));
      }
    }
  }

  private static void mayBidBySegmentOfAnyId() {
    GlanceMarket x = Markets.with('1', 1);
    x.addCampaign(1, 5, 99999, 99, 0);
    x.approve(0, true);
    x.setSegment(19, 0, true);
    x.join(0, 19);
    Check.due("21: the other id has it", true, x.mayBid(0, 0, 0));
    x.setConsent(19, 'l');
    Check.due("21: the other id forbids it", false, x.mayBid(0, 0, 0));
    x.part(19);
    Check.due("21: parted, it has it no more", false, x.mayBid(0, 0, 0));
  }

  private static void budgetIsSpent() {
    GlanceMarket x = limited(1, 100, 99);
    x.pass(23);
    Markets.charge(x, 0, 0, 99);
    Check.due("21: one less than the budget", true, x.mayBid(0, 0, 1));
    Markets.charge(x, 0, 0, 1);
    Check.due("21: the budget", false, x.mayBid(0, 0, 1));
    GlanceMarket y = limited(1, 100, 99);
    y.pass(23);
    Markets.charge(y, 0, 0, 101);
    Check.due("21: one more than the budget", false, y.mayBid(0, 0, 1));
    Check.due("21: it was charged all the same", 101, y.charged(0, 0));
  }

  private static void paceOfEachHour() {
    for (int hour = 0; hour < 24; hour++) {
      GlanceMarket x = limited(1, 240, 99);
      Markets.pass(x, 48 + hour);
      int pace = 10 * (hour + 1);
      Markets.charge(x, 0, 0, Math.min(pace, 239));
      Check.due("21: the pace of the hour " + hour, true, x.mayBid(0, 0, 1));
      Markets.charge(x, 0, 0, 1);
      Check.due("21: one more than the pace of " + hour, false, x.mayBid(0, 0, 1));
    }
  }

  private static void paceIsRoundedDown() {
    int[][] rows = {
      // budget, hour, at most
      {1, 0, 0}, {23, 0, 0}, {24, 0, 1}, {47, 0, 1}, {48, 0, 2}, {25, 22, 23}, {13, 11, 6},
      {99999, 0, 4166}, {100, 1, 8}, {7, 6, 2},
    };
    for (int[] row : rows) {
      GlanceMarket x = limited(1, row[0], 99);
      Markets.pass(x, row[1]);
      if (row[2] > 0) {
        Markets.charge(x, 0, 0, row[2]);
      }
      Check.due("21: " + row[2] + " of " + row[0], true, x.mayBid(0, 0, 1));
      Markets.charge(x, 0, 0, 1);
      Check.due("21: one more than " + row[2] + " of " + row[0], false, x.mayBid(0, 0, 1));
    }
  }

  private static void paceOfGreatestBudget() {
    GlanceMarket x = limited(9999, 99999, 99);
    x.pass(23);
    for (int i = 0; i < 10; i++) {
      Check.due("21: " + i + " times 9999", true, x.mayBid(0, 0, 1));
      Markets.shown(x, 0);
    }
    Markets.charge(x, 0, 0, 8);
    Check.due("21: 99998 of 99999", true, x.mayBid(0, 0, 1));
    Markets.charge(x, 0, 0, 1);
    Check.due("21: 99999 of 99999", false, x.mayBid(0, 0, 1));
  }

  private static void chargesOfYesterday() {
    GlanceMarket x = limited(1, 24, 99);
    x.pass(23);
    Markets.charge(x, 0, 0, 24);
    Check.due("21: the hour 23", false, x.mayBid(0, 0, 1));
    x.pass(1);
    Check.due("21: the hour 24", true, x.mayBid(0, 0, 1));
    Markets.charge(x, 0, 0, 1);
    Check.due("21: 1 of 1 in the hour 24", true, x.mayBid(0, 0, 1));
    Markets.charge(x, 0, 0, 1);
    Check.due("21: 2 of 1 in the hour 24", false, x.mayBid(0, 0, 1));
    x.pass(1);
    Check.due("21: 2 of 2 in the hour 25", true, x.mayBid(0, 0, 1));
  }

  private static void chargesOfTheLastHour() {
    GlanceMarket x = limited(1, 24, 99);
    Markets.pass(x, 2000);
    // The hour 2000 is the hour 8 of the day 83: at most 24 * 9 / 24.
    Markets.charge(x, 0, 0, 9);
    Check.due("21: 9 of 9", true, x.mayBid(0, 0, 1));
    Markets.charge(x, 0, 0, 1);
    Check.due("21: 10 of 9", false, x.mayBid(0, 0, 1));
  }

  private static void budgetAfterCredits() {
    GlanceMarket x = limited(1, 100, 99);
    for (int i = 0; i < 4; i++) {
      x.request(0, 0);
    }
    for (int i = 0; i < 4; i++) {
      x.show(i, 0);
    }
    x.pass(1);
    Check.due("26: all four", 4, x.sweep(0));
    Check.due("21: the hour 1, 4 of 8", true, x.mayBid(0, 0, 0));
    Markets.charge(x, 0, 0, 4);
    Check.due("21: the hour 1, 8 of 8", true, x.mayBid(0, 0, 0));
    Markets.charge(x, 0, 0, 1);
    Check.due("21: credits make no room", false, x.mayBid(0, 0, 0));
  }

  private static void capAtItsLimit() {
    for (int cap = 1; cap <= 5; cap++) {
      GlanceMarket x = limited(1, 99999, cap);
      for (int i = 0; i < cap; i++) {
        Check.due("21: " + i + " of " + cap, true, x.mayBid(0, 0, 3));
        Markets.shown(x, 3);
      }
      Check.due("21: all of " + cap, false, x.mayBid(0, 0, 3));
      int lost = x.request(0, 3);
      Check.due("17: nobody", -1, x.winner(lost));
    }
  }

  private static void capOfTheDayOfComing() {
    GlanceMarket x = limited(1, 99999, 1);
    x.request(0, 0);
    x.request(0, 1);
    x.show(0, 23);
    x.show(1, 24);
    Check.due("21: on its way", true, x.mayBid(0, 0, 0));
    x.pass(22);
    Check.due("21: still on its way", true, x.mayBid(0, 0, 0));
    x.pass(1);
    Check.due("21: it came in the last hour", false, x.mayBid(0, 0, 0));
    Check.due("21: that of the other did not", true, x.mayBid(0, 0, 1));
    x.pass(1);
    Check.due("21: a new day", true, x.mayBid(0, 0, 0));
    Check.due("21: it came in the first hour", false, x.mayBid(0, 0, 1));
    x.pass(23);
    Check.due("21: all that day", false, x.mayBid(0, 0, 1));
    x.pass(1);
    Check.due("21: the day after", true, x.mayBid(0, 0, 1));
  }

  private static void capOfOneCampaignAndPerson() {
    GlanceMarket x = limited(2, 99999, 1);
    x.addCampaign(0, 1, 99999, 1, -1);
    x.approve(1, true);
    Markets.shown(x, 0);
    Check.due("21: the other campaign", true, x.mayBid(1, 0, 0));
    Check.due("21: another person", true, x.mayBid(0, 0, 19));
    x.join(0, 19);
    Check.due("21: another id of the person", false, x.mayBid(0, 0, 19));
    Markets.shown(x, 19);
    Check.due("21: both of them", false, x.mayBid(1, 0, 0));
  }

  private static void capWithoutInvalidOnes() {
    GlanceMarket x = limited(1, 99999, 5);
    for (int i = 0; i < 4; i++) {
      Markets.shown(x, 0);
    }
    x.pass(1);
    Markets.shown(x, 0);
    Check.due("21: five of five", false, x.mayBid(0, 0, 0));
    Check.due("26: four of them", 4, x.sweep(0));
    for (int i = 1; i < 5; i++) {
      Check.due("21: " + i + " of five", true, x.mayBid(0, 0, 0));
      Markets.shown(x, 0);
    }
    Check.due("21: five valid ones of five", false, x.mayBid(0, 0, 0));
  }

  private static void greatestCap() {
    GlanceMarket x = limited(1, 99999, 99);
    for (int i = 0; i < 60; i++) {
      Markets.shown(x, 0);
    }
    Check.due("21: 60 of 99", true, x.mayBid(0, 0, 0));
  }
}
