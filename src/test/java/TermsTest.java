/** The sentences of "Terms", in the order of the document, each told as a run of calls. */
final class TermsTest {
  public static void main(String[] args) {
    eachCoinIsFoundAgain();
    noPersonIsUsedAgainstAConsent();
    aDayHas24Hours();
    thoseThatWereJoinedAreOnePerson();
    aPersonHasTheStrictestConsent();
    aPersonHasAllSegments();
    aPlaceHasAnAuction();
    aChainHasItsPercents();
    aCampaignIsPausedUntilApproved();
    thoseWithoutThePriceOfTheFloorDoNotBid();
    aCampaignMayBid();
    chargedLessThanTheBudget();
    chargedAtMostToTheHour();
    shownLessThanTheCap();
    theGreatestPriceWins();
    eventsComeInTheirHour();
    eventsComeInTheOrderOfTelling();
    eventsWithoutDelayComeAtOnce();
    aShowingIsChargedOnce();
    aClickCountsOnce();
    aPurchaseHappensWhenItIsToldAbout();
    aSweepMakesInvalid();
    sweepingAgain();
    thanksOfThe48Hours();
    thanksAsAllIsWhenAsked();
    thanksByEachModel();
    moneyOfTheChainAtTheRequest();
    forgettingAPerson();
    exceptionsChangeNothing();
    Check.end();
  }

  private static void eachCoinIsFoundAgain() {
    GlanceMarket x = new GlanceMarket();
    x.addPlace(1, '1');
    x.addPlace(1, '2');
    for (int reseller = 0; reseller < 3; reseller++) {
      x.addReseller(0, reseller, 29);
      x.addReseller(1, 5 - reseller, 7);
    }
    x.addCampaign(0, 33, 99999, 99, -1);
    x.addCampaign(1, 32, 99999, 99, -1);
    x.approve(0, true);
    x.approve(1, true);
    x.request(0, 0);
    x.request(1, 0);
    x.show(0, 0);
    x.show(1, 0);
    // 29 percent of 33 are 9.57, 7 percent of 32 are 2.24.
    Check.due("terms: the rest of 33", 33 - 3 * 9, x.revenue(0));
    Check.due("terms: the rest of 32", 32 - 3 * 2, x.revenue(1));
    for (int reseller = 0; reseller < 6; reseller++) {
      Check.due("terms: fees", reseller < 3 ? 9 : 2, x.fees(reseller));
    }
    Check.due("terms: paid", 65L, x.paid());
    Check.due("terms: found again", 65L, x.paidAnew());
  }

  private static void noPersonIsUsedAgainstAConsent() {
    String consents = "aln";
    for (int own = 0; own < 3; own++) {
      for (int joined = 0; joined < 3; joined++) {
        GlanceMarket x = Markets.with('1', 1, 10);
        x.addCampaign(1, 20, 99999, 99, 4);
        x.approve(1, true);
        x.setSegment(3, 4, true);
        x.setConsent(3, consents.charAt(own));
        x.setConsent(9, consents.charAt(joined));
        x.join(9, 3);
        int strictest = Math.max(own, joined);
        int winner = strictest == 0 ? 1 : strictest == 1 ? 0 : -1;
        Check.due("terms: the consent", consents.charAt(strictest), x.consent(9));
        Check.due("terms: who may use it", winner, x.winner(x.request(0, 9)));
        Check.due("terms: sound", true, x.isSound());
      }
    }
  }

  private static void aDayHas24Hours() {
    GlanceMarket x = Markets.won(2);
    Check.due("terms: the hours go from 0 on", 23, x.pass(23));
    x.show(0, 0);
    x.show(1, 1);
    Check.due("terms: the last hour of a day", 10, x.charged(0, 0));
    Check.due("terms: the next one", 24, x.pass(1));
    Check.due("terms: is of the next day", 10, x.charged(0, 1));
  }

  private static void thoseThatWereJoinedAreOnePerson() {
    GlanceMarket x = new GlanceMarket();
    Check.due("terms: two", true, x.join(19, 7));
    Check.due("terms: and two", true, x.join(12, 4));
    Check.due("terms: are four", true, x.join(19, 12));
    Check.due("terms: one by now", false, x.join(7, 4));
    for (int id : new int[] {4, 7, 12, 19}) {
      Check.due("terms: the lowest id", 4, x.person(id));
    }
    Check.due("terms: the lowest one leaves", 4, x.part(4));
    Check.due("terms: alone", 4, x.person(4));
    Check.due("terms: the others stay one", 7, x.person(19));
    Check.due("terms: of three", 3, x.part(12));
  }

  private static void aPersonHasTheStrictestConsent() {
    GlanceMarket x = new GlanceMarket();
    x.join(0, 1);
    x.join(1, 2);
    Check.due("terms: the id's own before", 'a', x.setConsent(1, 'l'));
    Check.due("terms: stricter", 'l', x.consent(0));
    Check.due("terms: its own before, not the person's", 'a', x.setConsent(2, 'n'));
    Check.due("terms: strictest", 'n', x.consent(0));
    x.part(2);
    Check.due("terms: goes with its id", 'n', x.consent(2));
    Check.due("terms: and leaves the others", 'l', x.consent(0));
  }

  private static void aPersonHasAllSegments() {
    GlanceMarket x = new GlanceMarket();
    x.addPlace(1, '1');
    for (int segment = 0; segment < 8; segment++) {
      x.addCampaign(0, 10, 99999, 99, segment);
      x.approve(segment, true);
      x.setSegment(segment, segment, true);
      x.join(0, segment);
    }
    for (int segment = 0; segment < 8; segment++) {
      Check.due("terms: has it by another id", true, x.mayBid(segment, 0, 7));
      Check.due("terms: a stranger has not", false, x.mayBid(segment, 0, 8));
    }
    Check.due("terms: its own had none", false, x.setSegment(7, 0, false));
    Check.due("terms: another id has it still", true, x.mayBid(0, 0, 7));
    x.part(0);
    Check.due("terms: it goes with its id", false, x.mayBid(0, 0, 7));
  }

  private static void aPlaceHasAnAuction() {
    GlanceMarket x = Markets.with('1', 5, 30, 20);
    x.addPlace(6, '2');
    Check.due("terms: its own price", 30, x.priceOf(x.request(0, 0)));
    Check.due("terms: that of the next one", 20, x.priceOf(x.request(1, 0)));
    x.approve(1, false);
    Check.due("terms: its own alone", 30, x.priceOf(x.request(0, 0)));
    Check.due("terms: the floor", 6, x.priceOf(x.request(1, 0)));
    x.approve(1, true);
    x.setFloor(1, 21);
    Check.due("terms: the next one may not bid so low", 21, x.priceOf(x.request(1, 0)));
    x.block(1, 1, true);
    x.setFloor(1, 6);
    Check.due("terms: the next one is blocked", 6, x.priceOf(x.request(1, 0)));
    Check.due("terms: as it was told", 21, x.priceOf(4));
  }

  private static void aChainHasItsPercents() {
    GlanceMarket x = Markets.with('1', 1, 101);
    Check.due("terms: one", 1, x.addReseller(0, 5, 30));
    Check.due("terms: the same one again", 2, x.addReseller(0, 5, 10));
    Check.due("terms: for nothing", 3, x.addReseller(0, 0, 0));
    Check.state("terms: at most three", () -> x.addReseller(0, 1, 1));
    Markets.shown(x, 0);
    Check.due("terms: twice, rounded down each time", 30 + 10, x.fees(5));
    Check.due("terms: nothing", 0, x.fees(0));
    Check.due("terms: the rest", 61, x.revenue(0));
  }

  private static void aCampaignIsPausedUntilApproved() {
    GlanceMarket x = new GlanceMarket();
    x.addPlace(1, '1');
    x.addCampaign(0, 1, 1, 1, -1);
    Check.due("terms: paused", -1, x.winner(x.request(0, 0)));
    Check.due("terms: was not approved", false, x.approve(0, true));
    Check.due("terms: approved", 0, x.winner(x.request(0, 0)));
    Check.due("terms: was approved", true, x.approve(0, false));
    Check.due("terms: paused again", -1, x.winner(x.request(0, 0)));
    Check.due("terms: the showing comes likewise", 0, x.show(1, 0));
    Check.due("terms: charged", 'c', x.stateOf(1));
  }

  private static void thoseWithoutThePriceOfTheFloorDoNotBid() {
    GlanceMarket x = Markets.with('1', 20, 19, 20, 21);
    int request = x.request(0, 0);
    Check.due("terms: of the floor and above it", 2, x.bids(request));
    Check.due("terms: above", 2, x.bidder(request, 0));
    Check.due("terms: the very floor", 1, x.bidder(request, 1));
    Check.due("terms: below", false, x.mayBid(0, 0, 0));
    x.setPrice(0, 20);
    Check.due("terms: no more", true, x.mayBid(0, 0, 0));
  }

  private static void aCampaignMayBid() {
    GlanceMarket x = Markets.with('1', 1, 10);
    x.addCampaign(6, 10, 99999, 99, 2);
    x.approve(1, true);
    x.addPlace(1, '1');
    Check.due("terms: without the segment", false, x.mayBid(1, 0, 0));
    x.setSegment(0, 2, true);
    Check.due("terms: with it", true, x.mayBid(1, 0, 0));
    x.block(0, 6, true);
    Check.due("terms: blocked there", false, x.mayBid(1, 0, 0));
    Check.due("terms: not elsewhere", true, x.mayBid(1, 1, 0));
    Check.due("terms: not another kind", true, x.mayBid(0, 0, 0));
    x.setConsent(0, 'l');
    Check.due("terms: needs all", false, x.mayBid(1, 1, 0));
    Check.due("terms: needs no segments", true, x.mayBid(0, 1, 0));
    x.setConsent(0, 'n');
    Check.due("terms: nothing", false, x.mayBid(0, 1, 0));
  }

  private static void chargedLessThanTheBudget() {
    GlanceMarket x = new GlanceMarket();
    x.addPlace(1, '1');
    x.addCampaign(0, 30, 60, 99, -1);
    x.approve(0, true);
    x.pass(23);
    Markets.shown(x, 0);
    Check.due("terms: 30 of 60", true, x.mayBid(0, 0, 0));
    x.request(0, 0);
    Markets.shown(x, 0);
    Check.due("terms: 60 of 60", false, x.mayBid(0, 0, 0));
    x.show(1, 0);
    Check.due("terms: what was won is charged likewise", 90, x.charged(0, 0));
    x.pass(1);
    Check.due("terms: another day", true, x.mayBid(0, 0, 0));
    Check.due("terms: nothing by now", 0, x.charged(0, 1));
  }

  private static void chargedAtMostToTheHour() {
    GlanceMarket x = new GlanceMarket();
    x.addPlace(1, '1');
    x.addCampaign(0, 10, 100, 99, -1);
    x.approve(0, true);
    Markets.shown(x, 0);
    // 100 * 1 / 24 = 4, * 2 = 8, * 3 = 12.
    Check.due("terms: 10 above 4", false, x.mayBid(0, 0, 0));
    x.pass(1);
    Check.due("terms: 10 above 8", false, x.mayBid(0, 0, 0));
    x.pass(1);
    Check.due("terms: 10 of 12", true, x.mayBid(0, 0, 0));
    x.setPrice(0, 2);
    Markets.shown(x, 0);
    Check.due("terms: 12 of 12", true, x.mayBid(0, 0, 0));
    x.setPrice(0, 1);
    Markets.shown(x, 0);
    Check.due("terms: 13 above 12", false, x.mayBid(0, 0, 0));
    x.pass(22);
    Check.due("terms: 0 of 4 in the next day", true, x.mayBid(0, 0, 0));
  }

  private static void shownLessThanTheCap() {
    GlanceMarket x = new GlanceMarket();
    x.addPlace(1, '1');
    x.addCampaign(0, 1, 99999, 4, -1);
    x.approve(0, true);
    x.join(0, 1);
    for (int i = 0; i < 4; i++) {
      Check.due("terms: below the cap", true, x.mayBid(0, 0, 2 - i % 2));
      Markets.shown(x, i % 2);
    }
    Check.due("terms: the cap of the person", false, x.mayBid(0, 0, 1));
    Check.due("terms: not of another", true, x.mayBid(0, 0, 2));
    x.part(1);
    Check.due("terms: two each", true, x.mayBid(0, 0, 1));
    x.join(1, 0);
    x.pass(1);
    Check.due("terms: four again", false, x.mayBid(0, 0, 0));
    x.sweep(0);
    Check.due("terms: invalid ones do not count", true, x.mayBid(0, 0, 0));
  }

  private static void theGreatestPriceWins() {
    GlanceMarket x = Markets.with('2', 1, 7, 9, 7, 9, 8);
    int request = x.request(0, 0);
    int[] due = {1, 3, 4, 0, 2};
    for (int i = 0; i < due.length; i++) {
      Check.due("terms: the order of bids", due[i], x.bidder(request, i));
    }
    Check.due("terms: the lowest number of several", 1, x.winner(request));
    Check.due("terms: the next one's price is the same", 9, x.priceOf(request));
    x.setConsent(1, 'n');
    int lost = x.request(0, 1);
    Check.due("terms: without bids", 0, x.bids(lost));
    Check.due("terms: nobody", -1, x.winner(lost));
    Check.due("terms: nobody won", 'n', x.stateOf(lost));
  }

  private static void eventsComeInTheirHour() {
    GlanceMarket x = Markets.won(1);
    Check.due("terms: a showing", 1, x.show(0, 2));
    Check.due("terms: a click", 2, x.click(0, 3));
    x.buy(0, 50, 4);
    Check.due("terms: and a purchase are on their way", 3, x.show(0, 0));
    Check.due("terms: that one came at once", 'c', x.stateOf(0));
    x.pass(2);
    Check.due("terms: the first one is late", 1, x.groundless());
    x.pass(1);
    Check.due("terms: the click", 'k', x.stateOf(0));
    Check.unsupported("terms: the purchase has not come", () -> x.thanks(0, 0, 'f'));
    x.pass(1);
    Check.due("terms: it came", 50, x.thanks(0, 0, 'f'));
    Check.due("terms: nothing is on its way", 0, x.click(0, 0));
  }

  private static void eventsComeInTheOrderOfTelling() {
    GlanceMarket x = Markets.won(2);
    x.show(0, 3);
    x.click(1, 3);
    x.pass(1);
    x.click(0, 2);
    x.show(1, 2);
    x.pass(2);
    Check.due("terms: shown, then clicked", 'k', x.stateOf(0));
    Check.due("terms: clicked, then shown", 'c', x.stateOf(1));
    Check.due("terms: one without ground", 1, x.groundless());
  }

  private static void eventsWithoutDelayComeAtOnce() {
    GlanceMarket x = Markets.won(1);
    x.click(0, 1);
    x.show(0, 0);
    Check.due("terms: ahead of what was told before", 'c', x.stateOf(0));
    x.pass(1);
    Check.due("terms: which finds it", 'k', x.stateOf(0));
    Check.due("terms: with ground", 0, x.groundless());
  }

  private static void aShowingIsChargedOnce() {
    GlanceMarket x = Markets.won(1);
    x.setConsent(1, 'n');
    x.request(0, 1);
    x.setPrice(0, 9999);
    x.setFloor(0, 999);
    x.show(0, 30);
    x.pass(30);
    Check.due("terms: the price that the request told", 10, x.charged(0, 1));
    Check.due("terms: in the hour of coming", 0, x.charged(0, 0));
    x.show(0, 0);
    Check.due("terms: charged already", 1, x.groundless());
    x.show(1, 0);
    Check.due("terms: nobody won it", 2, x.groundless());
    Check.due("terms: once", 10L, x.paid());
  }

  private static void aClickCountsOnce() {
    GlanceMarket x = Markets.won(4);
    x.click(0, 0);
    Check.due("terms: not charged yet", 1, x.groundless());
    for (int i = 0; i < 4; i++) {
      x.show(i, 0);
    }
    Check.due("terms: without ground for good", 'c', x.stateOf(0));
    x.click(0, 0);
    x.click(0, 0);
    Check.due("terms: clicked already", 2, x.groundless());
    x.pass(1);
    Check.due("terms: four in an hour", 4, x.sweep(0));
    x.click(1, 0);
    Check.due("terms: an invalid one counts", 2, x.groundless());
    x.click(1, 0);
    Check.due("terms: once too", 3, x.groundless());
    Check.due("terms: invalid, clicked or not", 'i', x.stateOf(1));
  }

  private static void aPurchaseHappensWhenItIsToldAbout() {
    GlanceMarket x = Markets.with('1', 1, 10);
    Check.due("terms: it happens now", 0, x.buy(0, 70, 2));
    Markets.clicked(x, 0);
    x.pass(1);
    Markets.clicked(x, 0);
    x.pass(1);
    Check.due("terms: a request of its hour", 70, x.thanks(0, 0, 'l'));
    Check.due("terms: a later one is not thanked", 0, x.thanks(0, 1, 'l'));
  }

  private static void aSweepMakesInvalid() {
    GlanceMarket x = Markets.with('1', 1, 10);
    x.addReseller(0, 2, 30);
    for (int i = 0; i < 7; i++) {
      Markets.shown(x, i / 4);
    }
    Check.argument("terms: not over", () -> x.sweep(0));
    x.pass(1);
    Markets.shown(x, 1);
    Check.due("terms: four are too many, three are not", 4, x.sweep(0));
    x.pass(1);
    Check.due("terms: another hour counts by itself", 0, x.sweep(1));
    for (int i = 0; i < 8; i++) {
      Check.due("terms: those of the id 0", i < 4 ? 'i' : 'c', x.stateOf(i));
    }
    Check.due("terms: credited", 40, x.credit(0));
    Check.due("terms: charged all the same", 80, x.charged(0, 0));
    Check.due("terms: taken back from revenue", 4 * 7, x.revenue(0));
    Check.due("terms: and from fees", 4 * 3, x.fees(2));
    Check.due("terms: paid", 40L, x.paid());
  }

  private static void sweepingAgain() {
    GlanceMarket x = Markets.with('1', 1, 10);
    for (int i = 0; i < 6; i++) {
      Markets.shown(x, i < 4 ? 0 : i);
    }
    x.pass(1);
    Check.due("terms: the four", 4, x.sweep(0));
    x.join(4, 0);
    Check.due("terms: invalid ones count: one more", 1, x.sweep(0));
    Check.due("terms: nothing more", 0, x.sweep(0));
    x.part(0);
    x.join(5, 4);
    Check.due("terms: two are not too many", 0, x.sweep(0));
    Check.due("terms: nothing becomes valid again", 50, x.credit(0));
  }

  private static void thanksOfThe48Hours() {
    GlanceMarket x = Markets.with('1', 1, 10);
    Markets.clicked(x, 0);
    x.pass(1);
    Markets.clicked(x, 0);
    x.pass(47);
    x.buy(0, 100, 0);
    Markets.clicked(x, 0);
    Check.due("terms: 48 hours ahead", 0, x.thanks(0, 0, 'f'));
    Check.due("terms: 47 hours ahead", 100, x.thanks(0, 1, 'f'));
    Check.due("terms: behind it in its hour", 100, x.thanks(0, 2, 'l'));
    x.pass(1);
    Markets.clicked(x, 0);
    Check.due("terms: an hour behind it", 0, x.thanks(0, 3, 'l'));
    Check.due("terms: two are thanked", 50, x.thanks(0, 1, 'e'));
  }

  private static void thanksAsAllIsWhenAsked() {
    GlanceMarket x = Markets.with('1', 1, 10);
    x.buy(5, 90, 0);
    Markets.clicked(x, 5);
    x.request(0, 6);
    Check.due("terms: the one", 90, x.thanks(0, 0, 'l'));
    x.pass(30);
    x.join(6, 5);
    x.show(1, 0);
    Check.due("terms: not clicked", 0, x.thanks(0, 1, 'l'));
    x.click(1, 0);
    Check.due("terms: shown and clicked much later", 90, x.thanks(0, 1, 'l'));
    Check.due("terms: the first one is another", 0, x.thanks(0, 0, 'l'));
    x.part(5);
    Check.due("terms: parted", 90, x.thanks(0, 0, 'l'));
    for (int i = 0; i < 3; i++) {
      Markets.shown(x, 6);
    }
    x.pass(1);
    x.join(5, 6);
    Check.due("terms: four came in the hour 30", 4, x.sweep(30));
    Check.due("terms: invalid ones are not thanked", 0, x.thanks(0, 1, 'l'));
    Check.due("terms: the valid one is", 90, x.thanks(0, 0, 'l'));
  }

  private static void thanksByEachModel() {
    GlanceMarket x = Markets.with('1', 1, 10);
    x.addCampaign(1, 11, 99999, 99, 3);
    x.approve(1, true);
    x.setSegment(1, 3, true);
    x.join(0, 1);
    Markets.clicked(x, 0);
    x.part(1);
    Markets.clicked(x, 0);
    Markets.shown(x, 0);
    Markets.clicked(x, 0);
    x.buy(0, 11, 0);
    int[][] due = {{11, 0, 0, 0}, {0, 0, 0, 11}, {3, 3, 0, 5}};
    for (int model = 0; model < 3; model++) {
      for (int request = 0; request < 4; request++) {
        Check.due("terms: " + "fle".charAt(model) + " of " + request, due[model][request],
            x.thanks(0, request, "fle".charAt(model)));
      }
    }
    Check.due("terms: the first one's campaign", 11, x.thanked(1, 'f'));
    Check.due("terms: not the last one's", 0, x.thanked(1, 'l'));
    Check.due("terms: one of three", 3, x.thanked(1, 'e'));
    Check.due("terms: the others", 8, x.thanked(0, 'e'));
  }

  private static void moneyOfTheChainAtTheRequest() {
    GlanceMarket x = Markets.won(1);
    x.addReseller(0, 0, 20);
    x.request(0, 0);
    x.addReseller(0, 1, 20);
    x.show(0, 0);
    Check.due("terms: no chain at its request", 10, x.revenue(0));
    x.show(1, 0);
    Check.due("terms: a chain of one at its request", 18, x.revenue(0));
    Check.due("terms: the one", 2, x.fees(0));
    Check.due("terms: not the later one", 0, x.fees(1));
  }

  private static void forgettingAPerson() {
    GlanceMarket x = Markets.with('1', 1, 10);
    x.addCampaign(1, 5, 99999, 1, -1);
    x.approve(1, true);
    x.join(0, 1);
    x.setSegment(1, 6, true);
    for (int i = 0; i < 4; i++) {
      Markets.clicked(x, i % 2);
    }
    x.request(0, 1);
    x.show(4, 1);
    x.buy(0, 100, 0);
    x.buy(1, 100, 1);
    Check.due("terms: thanked", 100, x.thanked(0, 'e'));
    Check.due("terms: all its requests", 5, x.forget(1));
    Check.due("terms: parted", 1, x.person(1));
    Check.due("terms: parted too", 1, x.part(0));
    Check.due("terms: its segments are taken", false, x.setSegment(1, 6, true));
    Check.due("terms: its consents are 'n'", 'n', x.setConsent(0, 'a'));
    Check.due("terms: both", 'n', x.setConsent(1, 'a'));
    Check.due("terms: no thanks", 0, x.thanked(0, 'e'));
    Check.unsupported("terms: no person", () -> x.thanks(0, 0, 'e'));
    x.pass(1);
    Check.unsupported("terms: none, though it was told", () -> x.thanks(1, 0, 'e'));
    Check.due("terms: no sweep", 0, x.sweep(0));
    Check.due("terms: its showing comes likewise", 'c', x.stateOf(4));
    Check.due("terms: money stays", 50L, x.paid());
    Check.due("terms: none any more", 0, x.forget(0));
  }

  private static void exceptionsChangeNothing() {
    GlanceMarket x = Markets.won(1);
    Check.refused(x, "terms: the first one documented", "IndexOutOfBoundsException",
        () -> x.thanks(0, 0, 'x'));
    Check.refused(x, "terms: the first one documented", "IllegalArgumentException",
        () -> x.buy(0, 0, 41));
    Check.refused(x, "terms: the first one documented", "IllegalArgumentException",
        () -> x.pass(49));
  }
}
