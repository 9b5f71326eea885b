import java.util.Random;

/** Long runs of calls, right and wrong, on a market and on the model, which must answer alike. */
final class RandomTest {
  private static final int RUNS = 600;
  private static final int CALLS = 512;
  private static final int LOOKS = 64;

  private final Random random;
  private final GlanceMarket x = new GlanceMarket();
  private final ModelMarket m = new ModelMarket();
  private final int ids;
  private final int wildness;
  private final int haste;
  private String run;
  private int called = 0;

  private RandomTest(long seed) {
    random = new Random(seed);
    ids = 1 + random.nextInt(seed % 3 == 0 ? 20 : 5);
    wildness = seed % 4 == 0 ? 6 : 60;
    haste = seed % 5 == 0 ? 48 : seed % 2 == 0 ? 3 : 12;
    run = "seed " + seed;
  }

  public static void main(String[] args) {
    for (long seed = 0; seed < RUNS; seed++) {
      new RandomTest(seed).play();
    }
    Check.end();
  }

  private void play() {
    for (int i = 0; i < 2; i++) {
      place();
    }
    for (int i = 0; i < 4; i++) {
      campaign();
    }
    for (int i = 0; i < CALLS - 8 && called < CALLS; i++) {
      step();
      if (i % LOOKS == LOOKS - 1) {
        look();
      }
    }
    look();
  }

  private void same(String call, Check.Call market, Check.Call model) {
    called++;
    Object due = Check.outcome(model);
    Object answer = Check.outcome(market);
    if (!due.equals(answer)) {
      Check.due(run + ", call " + called + ": " + call, due, answer);
    }
  }

  /** Mostly from 0 to bound - 1, sometimes one of the edges beyond, seldom far off. */
  private int pick(int bound) {
    int wild = random.nextInt(wildness);
    if (wild == 0) {
      return random.nextInt(3) == 0 ? random.nextInt() : random.nextBoolean() ? -1 : bound;
    }
    return bound > 0 ? random.nextInt(bound) : 0;
  }

  private int from(int lowest, int greatest) {
    int picked = pick(greatest - lowest + 1);
    return picked + lowest;
  }

  private int id() {
    return random.nextInt(20) == 0 ? pick(20) : random.nextInt(ids);
  }

  private char letter(String good) {
    return random.nextInt(wildness) == 0 ? (char) random.nextInt(256)
        : good.charAt(random.nextInt(good.length()));
  }

  private int delay() {
    return random.nextInt(3) == 0 ? from(0, 40) : random.nextInt(3);
  }

  private int recentRequest() {
    int size = m.requests.size();
    return random.nextInt(3) == 0 ? pick(size) : size - 1 - random.nextInt(Math.min(size, 6) + 1);
  }

  private int price() {
    return random.nextInt(8) == 0 ? from(1, 9999) : 1 + random.nextInt(60);
  }

  private void place() {
    int floor = random.nextInt(4) == 0 ? from(1, 999) : 1 + random.nextInt(20);
    char auction = letter("12");
    same("addPlace(" + floor + ", " + auction + ")",
        () -> x.addPlace(floor, auction), () -> m.addPlace(floor, auction));
  }

  private void campaign() {
    int kind = pick(8);
    int price = price();
    int budget = random.nextInt(3) == 0 ? from(1, 99999) : 200 + random.nextInt(2000);
    int cap = random.nextInt(3) == 0 ? from(1, 99) : 1 + random.nextInt(6);
    int segment = random.nextBoolean() ? -1 : random.nextInt(3) == 0 ? from(-1, 7) : 0;
    same("addCampaign(" + kind + ", " + price + ", " + budget + ", " + cap + ", " + segment + ")",
        () -> x.addCampaign(kind, price, budget, cap, segment),
        () -> m.addCampaign(kind, price, budget, cap, segment));
    int made = m.campaigns.size() - 1;
    same("approve(" + made + ", true)", () -> x.approve(made, true), () -> m.approve(made, true));
  }

  private void step() {
    int choice = random.nextInt(100);
    if (choice < 14) {
      visitors();
    } else if (choice < 24) {
      placesAndCampaigns();
    } else if (choice < 42) {
      request();
    } else if (choice < 75) {
      events();
    } else if (choice < 85) {
      hours();
    } else {
      questions();
    }
  }

  private void visitors() {
    int id = id();
    int other = id();
    int segment = random.nextInt(3) == 0 ? pick(8) : 0;
    boolean flag = random.nextInt(4) != 0;
    char consent = letter("aaaaaln");
    switch (random.nextInt(flag ? 12 : 13)) {
      case 0, 1, 2 -> same("setConsent(" + id + ", " + consent + ")",
          () -> x.setConsent(id, consent), () -> m.setConsent(id, consent));
      case 3, 4, 5, 6 -> same("setSegment(" + id + ", " + segment + ", " + flag + ")",
          () -> x.setSegment(id, segment, flag), () -> m.setSegment(id, segment, flag));
      case 7, 8, 9 -> same("join(" + id + ", " + other + ")",
          () -> x.join(id, other), () -> m.join(id, other));
      case 10, 11 -> same("part(" + id + ")", () -> x.part(id), () -> m.part(id));
      default -> same("forget(" + id + ")", () -> x.forget(id), () -> m.forget(id));
    }
  }

  private void placesAndCampaigns() {
    int place = pick(m.places.size());
    int campaign = pick(m.campaigns.size());
    int kind = pick(8);
    int reseller = pick(6);
    int percent = from(0, 30);
    int floor = 1 + random.nextInt(30);
    int price = price();
    boolean flag = random.nextInt(4) != 0;
    switch (random.nextInt(10)) {
      case 0 -> place();
      case 1 -> campaign();
      case 2 -> same("setFloor(" + place + ", " + floor + ")",
          () -> x.setFloor(place, floor), () -> m.setFloor(place, floor));
      case 3 -> same("block(" + place + ", " + kind + ", " + !flag + ")",
          () -> x.block(place, kind, !flag), () -> m.block(place, kind, !flag));
      case 4, 5, 6 -> same("addReseller(" + place + ", " + reseller + ", " + percent + ")",
          () -> x.addReseller(place, reseller, percent),
          () -> m.addReseller(place, reseller, percent));
      case 7, 8 -> same("approve(" + campaign + ", " + flag + ")",
          () -> x.approve(campaign, flag), () -> m.approve(campaign, flag));
      default -> same("setPrice(" + campaign + ", " + price + ")",
          () -> x.setPrice(campaign, price), () -> m.setPrice(campaign, price));
    }
  }

  private void request() {
    int place = pick(m.places.size());
    int id = id();
    same("request(" + place + ", " + id + ")", () -> x.request(place, id),
        () -> m.request(place, id));
    int made = m.requests.size() - 1;
    if (random.nextInt(3) != 0) {
      int delay = delay();
      same("show(" + made + ", " + delay + ")", () -> x.show(made, delay),
          () -> m.show(made, delay));
    }
  }

  private void events() {
    int request = recentRequest();
    int delay = delay();
    int id = id();
    int value = random.nextInt(4) == 0 ? from(1, 9999) : 1 + random.nextInt(200);
    switch (random.nextInt(9)) {
      case 0, 1, 2, 3 -> same("show(" + request + ", " + delay + ")",
          () -> x.show(request, delay), () -> m.show(request, delay));
      case 4, 5, 6, 7 -> same("click(" + request + ", " + delay + ")",
          () -> x.click(request, delay), () -> m.click(request, delay));
      default -> same("buy(" + id + ", " + value + ", " + delay + ")",
          () -> x.buy(id, value, delay), () -> m.buy(id, value, delay));
    }
  }

  private void hours() {
    int hours = random.nextInt(4) == 0 ? from(1, 48) : 1 + random.nextInt(haste);
    int hour = random.nextInt(3) == 0 ? pick(m.now) : m.now - random.nextInt(4);
    if (random.nextInt(5) < 2) {
      same("pass(" + hours + ")", () -> x.pass(hours), () -> m.pass(hours));
    } else {
      same("sweep(" + hour + ")", () -> x.sweep(hour), () -> m.sweep(hour));
    }
  }

  private void questions() {
    int a = pick(10);
    int b = pick(10);
    int id = id();
    int request = recentRequest();
    int purchase = pick(m.purchases.size());
    char model = letter("fle");
    switch (random.nextInt(8)) {
      case 0 -> same("mayBid(" + a + ", " + b + ", " + id + ")",
          () -> x.mayBid(a, b, id), () -> m.mayBid(a, b, id));
      case 1 -> same("charged(" + a + ", " + b + ")", () -> x.charged(a, b),
          () -> m.charged(a, b));
      case 2 -> same("bidder(" + request + ", " + a + ")", () -> x.bidder(request, a),
          () -> m.bidder(request, a));
      case 3 -> same("thanked(" + a + ", " + model + ")", () -> x.thanked(a, model),
          () -> m.thanked(a, model));
      case 4 -> same("isSound()", x::isSound, m::isSound);
      default -> same("thanks(" + purchase + ", " + request + ", " + model + ")",
          () -> x.thanks(purchase, request, model), () -> m.thanks(purchase, request, model));
    }
  }

  /** All that can be asked; questions change nothing, so they are not counted as calls. */
  private void look() {
    int counted = called;
    lookAtVisitors();
    lookAtMoney();
    for (int i = -1; i <= m.requests.size(); i++) {
      lookAtRequest(i);
    }
    same("groundless()", x::groundless, m::groundless);
    same("paid()", x::paid, m::paid);
    same("paidAnew()", x::paidAnew, m::paidAnew);
    same("soldShare()", x::soldShare, m::soldShare);
    same("meanPrice()", x::meanPrice, m::meanPrice);
    same("isSound()", x::isSound, m::isSound);
    called = counted;
  }

  private void lookAtVisitors() {
    for (int i = -1; i <= 20; i++) {
      int id = i;
      same("person(" + id + ")", () -> x.person(id), () -> m.person(id));
      same("consent(" + id + ")", () -> x.consent(id), () -> m.consent(id));
      for (int c = 0; c < m.campaigns.size(); c++) {
        for (int p = 0; p < m.places.size(); p++) {
          int campaign = c;
          int place = p;
          same("mayBid(" + c + ", " + p + ", " + id + ")", () -> x.mayBid(campaign, place, id),
              () -> m.mayBid(campaign, place, id));
        }
      }
    }
  }

  private void lookAtMoney() {
    for (int i = -1; i <= 8; i++) {
      int n = i;
      same("credit(" + n + ")", () -> x.credit(n), () -> m.credit(n));
      same("revenue(" + n + ")", () -> x.revenue(n), () -> m.revenue(n));
      same("fees(" + n + ")", () -> x.fees(n), () -> m.fees(n));
      for (char model : new char[] {'f', 'l', 'e', 'x'}) {
        same("thanked(" + n + ", " + model + ")", () -> x.thanked(n, model),
            () -> m.thanked(n, model));
      }
      for (int d = -1; d <= m.now / 24 + 2; d++) {
        int day = d;
        same("charged(" + n + ", " + day + ")", () -> x.charged(n, day), () -> m.charged(n, day));
      }
    }
  }

  private void lookAtRequest(int r) {
    same("winner(" + r + ")", () -> x.winner(r), () -> m.winner(r));
    same("priceOf(" + r + ")", () -> x.priceOf(r), () -> m.priceOf(r));
    same("bids(" + r + ")", () -> x.bids(r), () -> m.bids(r));
    same("stateOf(" + r + ")", () -> x.stateOf(r), () -> m.stateOf(r));
    for (int i = -1; i <= 8; i++) {
      int index = i;
      same("bidder(" + r + ", " + i + ")", () -> x.bidder(r, index), () -> m.bidder(r, index));
    }
    for (int i = -1; i <= m.purchases.size(); i++) {
      int purchase = i;
      for (char model : new char[] {'f', 'l', 'e'}) {
        same("thanks(" + i + ", " + r + ", " + model + ")", () -> x.thanks(purchase, r, model),
            () -> m.thanks(purchase, r, model));
      }
    }
  }
}
