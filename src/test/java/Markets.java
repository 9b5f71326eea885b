/** Markets that several tests begin with. */
final class Markets {
  private Markets() {}

  /** One place of this auction and floor; approved campaigns of the kinds 0, 1, 2 and so on. */
  static GlanceMarket with(char auction, int floor, int... prices) {
    GlanceMarket x = new GlanceMarket();
    x.addPlace(floor, auction);
    for (int i = 0; i < prices.length; i++) {
      x.addCampaign(i, prices[i], 99999, 99, -1);
      x.approve(i, true);
    }
    return x;
  }

  /** One place and one campaign of the price 10, which this many requests of id 0 won. */
  static GlanceMarket won(int requests) {
    GlanceMarket x = with('1', 1, 10);
    for (int i = 0; i < requests; i++) {
      x.request(0, 0);
    }
    return x;
  }

  static int shown(GlanceMarket x, int id) {
    int request = x.request(0, id);
    x.show(request, 0);
    return request;
  }

  static int clicked(GlanceMarket x, int id) {
    int request = shown(x, id);
    x.click(request, 0);
    return request;
  }

  /** Charges a campaign that wins alone at place 0 with this sum, at most 9999, by a request. */
  static void charge(GlanceMarket x, int campaign, int id, int sum) {
    int before = x.setPrice(campaign, sum);
    shown(x, id);
    x.setPrice(campaign, before);
  }

  /** Lets so many hours pass, however many. */
  static void pass(GlanceMarket x, int hours) {
    for (int left = hours; left > 0; left -= 48) {
      x.pass(Math.min(left, 48));
    }
  }

  /** Five places with full chains, eight campaigns, 60 clicked requests of id 19, 20 purchases. */
  static GlanceMarket full() {
    GlanceMarket x = new GlanceMarket();
    for (int place = 0; place < 5; place++) {
      x.addPlace(1, '1');
      for (int reseller = 0; reseller < 3; reseller++) {
        x.addReseller(place, reseller + 3, 30);
      }
    }
    for (int campaign = 0; campaign < 8; campaign++) {
      x.addCampaign(7, 10, 99999, 99, 7);
      x.approve(campaign, true);
    }
    x.setSegment(19, 7, true);
    for (int request = 0; request < 60; request++) {
      x.request(request % 5, 19);
      x.show(request, 0);
      x.click(request, 0);
    }
    for (int purchase = 0; purchase < 20; purchase++) {
      x.buy(19, 9999, 0);
    }
    return x;
  }
}
