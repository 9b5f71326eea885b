import java.util.List;
import java.util.Set;
import java.util.TreeSet;
import java.util.function.Consumer;
import java.util.function.Supplier;

/**
 * Every call that can be refused, with every mixture of arguments at and beyond their edges (of
 * addCampaign's five, one at a time), on markets with nothing, with some and with all that they
 * take: it throws what is documented first and leaves the market as it was, or it throws nothing.
 */
final class RefusedTest {
  private static final String CONSENTS = "aln";
  private static final String AUCTIONS = "12";
  private static final String MODELS = "fle";

  /** What a market of a test numbers, and how one more of it is made. */
  private record Size(String name, int places, int campaigns, int requests, int purchases, int hour,
      Supplier<GlanceMarket> made) {}

  private final Size size;
  private GlanceMarket x;
  private int refused = 0;
  private int taken = 0;

  // What is documented first of what the next call's arguments break, or null.
  private String due = null;

  private RefusedTest(Size size) {
    this.size = size;
    x = size.made.get();
  }

  public static void main(String[] args) {
    for (Size size : new Size[] {
      new Size("new", 0, 0, 0, 0, 0, GlanceMarket::new),
      new Size("begun", 2, 2, 3, 3, 2, RefusedTest::begun),
      new Size("nearly full", 4, 7, 59, 19, 1999, RefusedTest::nearlyFull),
      new Size("full", 5, 8, 60, 20, 2000, RefusedTest::full),
    }) {
      RefusedTest test = new RefusedTest(size);
      test.visitors();
      test.places();
      test.campaigns();
      test.requests();
      test.events();
      test.hours();
      test.money();
      test.figures();
      Check.due(size.name + ": calls were refused", true, test.refused > 500);
      Check.due(size.name + ": calls were taken", true, test.taken > 50);
    }
    Check.end();
  }

  /** Place 1 has a full chain; request 1 was lost; purchase 1 is on its way, 2 is forgotten. */
  private static GlanceMarket begun() {
    GlanceMarket x = Markets.with('2', 3, 20, 10);
    x.addPlace(999, '1');
    for (int reseller = 0; reseller < 3; reseller++) {
      x.addReseller(1, reseller, 10);
    }
    Markets.clicked(x, 0);
    x.request(1, 0);
    x.request(0, 1);
    x.buy(0, 100, 0);
    x.pass(2);
    x.buy(0, 100, 40);
    x.buy(1, 100, 0);
    x.show(2, 40);
    x.click(2, 40);
    x.forget(1);
    return x;
  }

  private static GlanceMarket nearlyFull() {
    GlanceMarket x = Markets.with('1', 1, 10, 10, 10, 10, 10, 10, 10);
    for (int place = 1; place < 4; place++) {
      x.addPlace(1, '2');
    }
    for (int request = 0; request < 59; request++) {
      Markets.clicked(x, 0);
    }
    for (int purchase = 0; purchase < 19; purchase++) {
      x.buy(0, 100, 0);
    }
    Markets.pass(x, 1999);
    return x;
  }

  private static GlanceMarket full() {
    GlanceMarket x = Markets.full();
    Markets.pass(x, 2000);
    return x;
  }

  private RefusedTest bounds(boolean wrong) {
    return first(wrong, "IndexOutOfBoundsException");
  }

  private RefusedTest argument(boolean wrong) {
    return first(wrong, "IllegalArgumentException");
  }

  private RefusedTest state(boolean wrong) {
    return first(wrong, "IllegalStateException");
  }

  private RefusedTest first(boolean wrong, String exception) {
    due = due == null && wrong ? exception : due;
    return this;
  }

  private void at(String call, Consumer<GlanceMarket> made) {
    Check.Call asked = () -> {
      made.accept(x);
      return "taken";
    };
    if (due != null) {
      Check.refused(x, size.name + ": " + call, due, asked);
      refused++;
    } else {
      Check.due(size.name + ": " + call, "taken", Check.outcome(asked));
      x = size.made.get();
      taken++;
    }
    due = null;
  }

  private static boolean out(int number, int lowest, int greatest) {
    return number < lowest || number > greatest;
  }

  private static boolean isNone(char letter, String letters) {
    return letters.indexOf(letter) < 0;
  }

  /** Both edges, what is next to them, and numbers that a shift or a cast would wrap. */
  private static Set<Integer> edges(int lowest, int greatest) {
    return new TreeSet<>(List.of(Integer.MIN_VALUE, lowest - 1, lowest, greatest, greatest + 1,
        lowest + 32, greatest + 256, Integer.MAX_VALUE));
  }

  private static Set<Integer> edgesOf(int count) {
    return edges(0, count - 1);
  }

  /** The letters, those next to them, and those that have the same low byte or another case. */
  private static Set<Character> lettersBy(String letters) {
    Set<Character> all = new TreeSet<>(Set.of((char) 0, (char) 255, (char) 65535));
    for (char letter : letters.toCharArray()) {
      all.add(letter);
      all.add((char) (letter - 1));
      all.add((char) (letter + 1));
      all.add((char) (letter ^ 32));
      all.add((char) (letter + 256));
    }
    return all;
  }

  private void visitors() {
    for (int id : edges(0, 19)) {
      boolean wrong = out(id, 0, 19);
      for (char c : lettersBy(CONSENTS)) {
        bounds(wrong).argument(isNone(c, CONSENTS))
            .at("2: setConsent(" + id + ", " + (int) c + ")", m -> m.setConsent(id, c));
      }
      for (int segment : edges(0, 7)) {
        bounds(wrong).argument(out(segment, 0, 7))
            .at("3: setSegment(" + id + ", " + segment + ")", m -> m.setSegment(id, segment, true));
      }
      for (int other : edges(0, 19)) {
        bounds(wrong || out(other, 0, 19))
            .at("4: join(" + id + ", " + other + ")", m -> m.join(id, other));
      }
      bounds(wrong).at("5: part(" + id + ")", m -> m.part(id));
      bounds(wrong).at("6: person(" + id + ")", m -> m.person(id));
      bounds(wrong).at("7: consent(" + id + ")", m -> m.consent(id));
      bounds(wrong).at("8: forget(" + id + ")", m -> m.forget(id));
    }
  }

  private void places() {
    for (int floor : edges(1, 999)) {
      for (char auction : lettersBy(AUCTIONS)) {
        argument(isNone(auction, AUCTIONS) || out(floor, 1, 999)).state(size.places == 5)
            .at("9: addPlace(" + floor + ", " + (int) auction + ")",
                m -> m.addPlace(floor, auction));
      }
    }
    for (int place : edgesOf(size.places)) {
      boolean wrong = out(place, 0, size.places - 1);
      for (int floor : edges(1, 999)) {
        bounds(wrong).argument(out(floor, 1, 999))
            .at("10: setFloor(" + place + ", " + floor + ")", m -> m.setFloor(place, floor));
      }
      for (int kind : edges(0, 7)) {
        bounds(wrong).argument(out(kind, 0, 7))
            .at("11: block(" + place + ", " + kind + ")", m -> m.block(place, kind, true));
      }
      chains(place, wrong);
    }
  }

  private void chains(int place, boolean wrong) {
    boolean isFull = size.places == 5 || size.places == 2 && place == 1;
    for (int reseller : edges(0, 5)) {
      for (int percent : edges(0, 30)) {
        bounds(wrong).argument(out(reseller, 0, 5) || out(percent, 0, 30)).state(isFull)
            .at("12: addReseller(" + place + ", " + reseller + ", " + percent + ")",
                m -> m.addReseller(place, reseller, percent));
      }
    }
  }

  private void campaigns() {
    int[] right = {7, 9999, 99999, 99, 7};
    int[][] limits = {{0, 7}, {1, 9999}, {1, 99999}, {1, 99}, {-1, 7}};
    for (int at = 0; at < limits.length; at++) {
      for (int number : edges(limits[at][0], limits[at][1])) {
        int[] a = right.clone();
        a[at] = number;
        argument(out(number, limits[at][0], limits[at][1])).state(size.campaigns == 8)
            .at("13: addCampaign with " + number + " at " + at,
                m -> m.addCampaign(a[0], a[1], a[2], a[3], a[4]));
      }
    }
    for (int campaign : edgesOf(size.campaigns)) {
      boolean wrong = out(campaign, 0, size.campaigns - 1);
      bounds(wrong).at("14: approve(" + campaign + ")", m -> m.approve(campaign, false));
      for (int price : edges(1, 9999)) {
        bounds(wrong).argument(out(price, 1, 9999))
            .at("15: setPrice(" + campaign + ", " + price + ")", m -> m.setPrice(campaign, price));
      }
    }
  }

  private void requests() {
    for (int place : edgesOf(size.places)) {
      for (int id : edges(0, 19)) {
        boolean wrong = out(place, 0, size.places - 1) || out(id, 0, 19);
        bounds(wrong).state(size.requests == 60)
            .at("16: request(" + place + ", " + id + ")", m -> m.request(place, id));
        for (int campaign : edgesOf(size.campaigns)) {
          bounds(wrong || out(campaign, 0, size.campaigns - 1))
              .at("21: mayBid(" + campaign + ", " + place + ", " + id + ")",
                  m -> m.mayBid(campaign, place, id));
        }
      }
    }
    for (int request : edgesOf(size.requests)) {
      boolean wrong = out(request, 0, size.requests - 1);
      bounds(wrong).at("17: winner(" + request + ")", m -> m.winner(request));
      bounds(wrong).at("18: priceOf(" + request + ")", m -> m.priceOf(request));
      bounds(wrong).at("19: bids(" + request + ")", m -> m.bids(request));
      bounds(wrong).at("27: stateOf(" + request + ")", m -> m.stateOf(request));
      bidders(request, wrong);
    }
    if (size.name.equals("begun")) {
      first(true, "NoSuchElementException").at("18: priceOf a lost one", m -> m.priceOf(1));
      first(true, "NoSuchElementException").at("20: bidder of a lost one", m -> m.bidder(1, 0));
    }
  }

  private void bidders(int request, boolean wrong) {
    int bids = wrong ? 0 : x.bids(request);
    for (int index : edgesOf(bids)) {
      bounds(wrong).first(out(index, 0, bids - 1), "NoSuchElementException")
          .at("20: bidder(" + request + ", " + index + ")", m -> m.bidder(request, index));
    }
  }

  private void events() {
    for (int delay : edges(0, 40)) {
      for (int request : edgesOf(size.requests)) {
        boolean wrong = out(request, 0, size.requests - 1);
        bounds(wrong).argument(out(delay, 0, 40))
            .at("22: show(" + request + ", " + delay + ")", m -> m.show(request, delay));
        bounds(wrong).argument(out(delay, 0, 40))
            .at("23: click(" + request + ", " + delay + ")", m -> m.click(request, delay));
      }
      for (int id : edges(0, 19)) {
        for (int value : edges(1, 9999)) {
          bounds(out(id, 0, 19)).argument(out(value, 1, 9999) || out(delay, 0, 40))
              .state(size.purchases == 20)
              .at("24: buy(" + id + ", " + value + ", " + delay + ")",
                  m -> m.buy(id, value, delay));
        }
      }
    }
  }

  private void hours() {
    for (int hours : new int[] {Integer.MIN_VALUE, -1, 0, 1, 2, 48, 49, Integer.MAX_VALUE}) {
      argument(out(hours, 1, 48)).state(size.hour + hours > 2000)
          .at("25: pass(" + hours + ")", m -> m.pass(hours));
    }
    for (int hour : edgesOf(size.hour)) {
      argument(out(hour, 0, size.hour - 1)).at("26: sweep(" + hour + ")", m -> m.sweep(hour));
    }
  }

  private void money() {
    for (int campaign : edgesOf(size.campaigns)) {
      boolean wrong = out(campaign, 0, size.campaigns - 1);
      for (int day : new int[] {Integer.MIN_VALUE, -1, 0, 83, 84, Integer.MAX_VALUE}) {
        bounds(wrong).argument(day < 0)
            .at("29: charged(" + campaign + ", " + day + ")", m -> m.charged(campaign, day));
      }
      bounds(wrong).at("30: credit(" + campaign + ")", m -> m.credit(campaign));
      for (char model : lettersBy(MODELS)) {
        bounds(wrong).argument(isNone(model, MODELS))
            .at("34: thanked(" + campaign + ", " + (int) model + ")",
                m -> m.thanked(campaign, model));
      }
    }
    for (int place : edgesOf(size.places)) {
      bounds(out(place, 0, size.places - 1))
          .at("31: revenue(" + place + ")", m -> m.revenue(place));
    }
    for (int reseller : edges(0, 5)) {
      bounds(out(reseller, 0, 5)).at("32: fees(" + reseller + ")", m -> m.fees(reseller));
    }
    for (int purchase = -1; purchase <= size.purchases; purchase++) {
      thanks(purchase);
    }
    thanks(Integer.MIN_VALUE);
    thanks(Integer.MAX_VALUE);
  }

  private void thanks(int purchase) {
    boolean wrong = out(purchase, 0, size.purchases - 1);
    boolean isWithoutThanks = size.name.equals("begun") && (purchase == 1 || purchase == 2);
    for (int request : edgesOf(size.requests)) {
      for (char model : lettersBy(MODELS)) {
        bounds(wrong || out(request, 0, size.requests - 1)).argument(isNone(model, MODELS))
            .first(isWithoutThanks, "UnsupportedOperationException")
            .at("33: thanks(" + purchase + ", " + request + ", " + (int) model + ")",
                m -> m.thanks(purchase, request, model));
      }
    }
  }

  private void figures() {
    first(size.requests == 0, "ArithmeticException").at("37: soldShare()", GlanceMarket::soldShare);
    first(size.requests == 0, "ArithmeticException").at("38: meanPrice()", GlanceMarket::meanPrice);
    at("28: groundless()", GlanceMarket::groundless);
    at("35: paid()", GlanceMarket::paid);
    at("36: paidAnew()", GlanceMarket::paidAnew);
    at("39: isSound()", GlanceMarket::isSound);
  }
}
