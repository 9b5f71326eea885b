/** Promises 16 to 21: requests, their auctions and who may bid. */
final class RequestsTest {
  public static void main(String[] args) {
    request();
    winner();
    priceOf();
    bidsAndBidder();
    mayBidByConsent();
    mayBidByPlace();
    mayBidByBudget();
    mayBidByCap();
    mayBidByCapOfJoined();
    mayBidThrows();
    Check.end();
  }

  private static void request() {
    GlanceMarket x = Markets.with('1', 1, 5);
    Check.bounds("16: place 1", () -> x.request(1, 0));
    Check.bounds("16: place -1", () -> x.request(-1, 0));
    Check.bounds("16: id 20", () -> x.request(0, 20));
    Check.bounds("16: id -1", () -> x.request(0, -1));
    for (int i = 0; i < 60; i++) {
      Check.due("16: number", i, x.request(0, i % 20));
    }
    Check.state("16: 61", () -> x.request(0, 0));
    Check.bounds("16: 61, but first the place", () -> x.request(1, 0));
    Check.bounds("16: 61, but first the id", () -> x.request(0, 20));
    Check.bounds("16: not made", () -> x.winner(60));
    Check.due("16: would bid all the same", true, x.mayBid(0, 0, 0));
  }

  private static void winner() {
    GlanceMarket x = Markets.with('1', 6, 5, 9, 7, 9);
    Check.due("17: greatest price, lowest number", 1, x.winner(x.request(0, 0)));
    x.approve(1, false);
    Check.due("17: the next", 3, x.winner(x.request(0, 0)));
    x.approve(3, false);
    Check.due("17: the next", 2, x.winner(x.request(0, 0)));
    x.approve(2, false);
    Check.due("17: below the floor", -1, x.winner(x.request(0, 0)));
    x.setFloor(0, 5);
    Check.due("17: at the floor", 0, x.winner(x.request(0, 0)));
    Check.due("17: the first one's is kept", 1, x.winner(0));
    Check.bounds("17: request 5", () -> x.winner(5));
    Check.bounds("17: request -1", () -> x.winner(-1));
  }

  private static void priceOf() {
    GlanceMarket own = Markets.with('1', 2, 5, 9, 7);
    Check.due("18: its own", 9, own.priceOf(own.request(0, 0)));
    GlanceMarket next = Markets.with('2', 2, 5, 9, 7);
    Check.due("18: that of the next one", 7, next.priceOf(next.request(0, 0)));
    next.setPrice(0, 9);
    Check.due("18: of two alike", 9, next.priceOf(next.request(0, 0)));
    next.approve(0, false);
    next.approve(2, false);
    GlanceMarket two = Markets.with('2', 2, 5, 9);
    Check.due("18: of two", 5, two.priceOf(two.request(0, 0)));
    Check.due("18: the floor if there is none", 2, next.priceOf(next.request(0, 0)));
    next.setFloor(0, 8);
    next.approve(2, true);
    Check.due("18: the next one is below the floor", 8, next.priceOf(next.request(0, 0)));
    Check.due("18: is kept", 2, next.priceOf(2));
    next.approve(1, false);
    int lost = next.request(0, 0);
    Check.element("18: nobody won", () -> next.priceOf(lost));
    Check.bounds("18: no such request", () -> next.priceOf(lost + 1));
    Check.bounds("18: request -1", () -> next.priceOf(-1));
  }

  private static void bidsAndBidder() {
    GlanceMarket x = Markets.with('2', 4, 5, 9, 3, 9, 5, 10, 9, 4);
    int r = x.request(0, 0);
    Check.due("19: bids", 7, x.bids(r));
    int[] order = {5, 1, 3, 6, 0, 4, 7};
    for (int i = 0; i < order.length; i++) {
      Check.due("20: bidder " + i, order[i], x.bidder(r, i));
    }
    Check.element("20: no such bid", () -> x.bidder(r, 7));
    Check.element("20: index -1", () -> x.bidder(r, -1));
    Check.bounds("20: request 1 comes first", () -> x.bidder(1, -1));
    Check.bounds("20: request -1", () -> x.bidder(-1, 0));
    x.setPrice(2, 9999);
    x.approve(5, false);
    Check.due("19: are kept", 7, x.bids(r));
    Check.due("20: are kept", 5, x.bidder(r, 0));
    x.setConsent(0, 'n');
    int lost = x.request(0, 0);
    Check.due("19: none", 0, x.bids(lost));
    Check.element("20: none", () -> x.bidder(lost, 0));
    Check.bounds("19: request 2", () -> x.bids(2));
    Check.bounds("19: request -1", () -> x.bids(-1));
    x.setConsent(0, 'a');
    Check.due("19: the price of the next one", 9, x.priceOf(x.request(0, 0)));
    Check.due("19: all but one", 7, x.bids(2));
    Check.due("20: the new greatest one", 2, x.bidder(2, 0));
  }

  private static void mayBidByConsent() {
    GlanceMarket x = Markets.with('1', 1, 5);
    x.addCampaign(0, 5, 99999, 99, 3);
    x.approve(1, true);
    Check.due("21: without segment", true, x.mayBid(0, 0, 1));
    Check.due("21: has it not", false, x.mayBid(1, 0, 1));
    x.setSegment(2, 3, true);
    Check.due("21: another has it", false, x.mayBid(1, 0, 1));
    x.join(1, 2);
    Check.due("21: a person has those of all ids", true, x.mayBid(1, 0, 1));
    x.setConsent(2, 'l');
    Check.due("21: l needs no segments", true, x.mayBid(0, 0, 1));
    Check.due("21: l forbids segments", false, x.mayBid(1, 0, 1));
    x.setConsent(1, 'n');
    Check.due("21: n forbids all", false, x.mayBid(0, 0, 2));
    Check.due("21: n forbids all", false, x.mayBid(1, 0, 2));
    x.part(1);
    Check.due("21: parted", true, x.mayBid(0, 0, 2));
    x.setConsent(2, 'a');
    Check.due("21: allowed again", true, x.mayBid(1, 0, 2));
    x.setSegment(2, 3, false);
    x.setSegment(2, 4, true);
    Check.due("21: another segment", false, x.mayBid(1, 0, 2));
    x.addCampaign(0, 5, 99999, 99, 0);
    x.approve(2, true);
    Check.due("21: has not the first one", false, x.mayBid(2, 0, 0));
    x.setSegment(0, 0, true);
    Check.due("21: has the first one", true, x.mayBid(2, 0, 0));
    x.setConsent(0, 'l');
    Check.due("21: the first id forbids", false, x.mayBid(2, 0, 0));
  }

  private static void mayBidByPlace() {
    GlanceMarket x = Markets.with('1', 5, 5, 6);
    x.addPlace(6, '1');
    Check.due("21: at the floor", true, x.mayBid(0, 0, 0));
    Check.due("21: below the floor", false, x.mayBid(0, 1, 0));
    Check.due("21: the other is not", true, x.mayBid(1, 1, 0));
    x.block(0, 1, true);
    Check.due("21: blocked", false, x.mayBid(1, 0, 0));
    Check.due("21: not there", true, x.mayBid(1, 1, 0));
    Check.due("21: another kind", true, x.mayBid(0, 0, 0));
    x.approve(0, false);
    Check.due("21: paused", false, x.mayBid(0, 0, 0));
  }

  private static void mayBidByBudget() {
    GlanceMarket x = new GlanceMarket();
    x.addPlace(1, '1');
    x.addCampaign(0, 10, 250, 99, -1);
    x.approve(0, true);
    // At the hours 0, 1, 2 of a day 250 lets at most 10, 20, 31 be charged ahead.
    Check.due("21: nothing charged", true, x.mayBid(0, 0, 0));
    for (int i = 0; i < 40; i++) {
      x.request(0, i % 20);
    }
    x.show(0, 0);
    Check.due("21: 10 of 10", true, x.mayBid(0, 0, 19));
    x.show(1, 0);
    Check.due("21: 20 of 10", false, x.mayBid(0, 0, 19));
    x.pass(1);
    Check.due("21: 20 of 20", true, x.mayBid(0, 0, 19));
    x.pass(22);
    for (int i = 2; i < 24; i++) {
      x.show(i, 0);
    }
    Check.due("21: 240 of 250", true, x.mayBid(0, 0, 19));
    x.pass(1);
    Check.due("21: a new day", true, x.mayBid(0, 0, 19));
    x.pass(23);
    for (int i = 24; i < 40; i++) {
      x.show(i, 0);
    }
    x.setPrice(0, 90);
    int big = x.request(0, 0);
    x.show(big, 0);
    Check.due("21: all of it is not less", false, x.mayBid(0, 0, 19));
    Check.due("21: all of it", 250, x.charged(0, 1));
    creditsAreNotTakenOff();
  }

  private static void creditsAreNotTakenOff() {
    GlanceMarket x = new GlanceMarket();
    x.addPlace(1, '1');
    x.addCampaign(0, 6, 24, 99, -1);
    x.approve(0, true);
    for (int i = 0; i < 4; i++) {
      x.request(0, 0);
    }
    for (int i = 0; i < 4; i++) {
      x.show(i, 0);
    }
    x.pass(1);
    Check.due("21: swept", 4, x.sweep(0));
    Check.due("21: the budget is spent all the same", false, x.mayBid(0, 0, 0));
  }

  private static void mayBidByCap() {
    GlanceMarket x = new GlanceMarket();
    x.addPlace(1, '1');
    x.addCampaign(0, 1, 99999, 4, -1);
    x.addCampaign(0, 1, 99999, 4, -1);
    x.approve(0, true);
    x.approve(1, true);
    for (int i = 0; i < 5; i++) {
      x.request(0, 3);
    }
    for (int i = 0; i < 3; i++) {
      x.show(i, 0);
    }
    x.show(3, 1);
    Check.due("21: three of four", true, x.mayBid(0, 0, 3));
    x.pass(1);
    Check.due("21: four of four", false, x.mayBid(0, 0, 3));
    Check.due("21: another person", true, x.mayBid(0, 0, 4));
    Check.due("21: another campaign", true, x.mayBid(1, 0, 3));
    x.pass(23);
    Check.due("21: another day", true, x.mayBid(0, 0, 3));
    invalidOnesDoNotCount();
  }

  private static void invalidOnesDoNotCount() {
    GlanceMarket x = new GlanceMarket();
    x.addPlace(1, '1');
    x.addCampaign(0, 1, 99999, 2, -1);
    x.approve(0, true);
    for (int i = 0; i < 4; i++) {
      x.request(0, 3);
    }
    for (int i = 0; i < 4; i++) {
      x.show(i, 0);
    }
    x.pass(1);
    Check.due("21: beyond the cap", false, x.mayBid(0, 0, 3));
    x.sweep(0);
    Check.due("21: invalid ones do not count", true, x.mayBid(0, 0, 3));
  }

  private static void mayBidByCapOfJoined() {
    GlanceMarket x = new GlanceMarket();
    x.addPlace(1, '1');
    x.addCampaign(0, 1, 99999, 2, -1);
    x.approve(0, true);
    x.request(0, 3);
    x.request(0, 4);
    x.show(0, 0);
    x.show(1, 0);
    Check.due("21: one each", true, x.mayBid(0, 0, 3));
    x.join(3, 4);
    Check.due("21: two of the person", false, x.mayBid(0, 0, 3));
    x.part(4);
    Check.due("21: parted", true, x.mayBid(0, 0, 4));
  }

  private static void mayBidThrows() {
    GlanceMarket x = Markets.with('1', 1, 5);
    Check.bounds("21: campaign 1", () -> x.mayBid(1, 0, 0));
    Check.bounds("21: campaign -1", () -> x.mayBid(-1, 0, 0));
    Check.bounds("21: place 1", () -> x.mayBid(0, 1, 0));
    Check.bounds("21: place -1", () -> x.mayBid(0, -1, 0));
    Check.bounds("21: id 20", () -> x.mayBid(0, 0, 20));
    Check.bounds("21: id -1", () -> x.mayBid(0, 0, -1));
  }
}
