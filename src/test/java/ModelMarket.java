import java.util.ArrayList;
import java.util.HashSet;
import java.util.List;
import java.util.NoSuchElementException;
import java.util.Set;
import java.util.TreeMap;
import java.util.TreeSet;

/**
 * The document once more, in another way: nothing is added up as it comes; each answer is found
 * anew from what was told. It is only asked for what the document promises.
 */
final class ModelMarket {
  static final class Place {
    int floor;
    char auction;
    final Set<Integer> blocked = new HashSet<>();
    List<int[]> chain = List.of();
  }

  static final class Campaign {
    int kind;
    int price;
    int budget;
    int cap;
    int segment;
    boolean approved;
  }

  static final class Request {
    int number;
    Place place;
    Integer visitor;
    int hour;
    List<int[]> chain;
    final List<Integer> bidders = new ArrayList<>();
    int price;
    boolean byConsent = true;
    Integer shownIn;
    boolean clicked;
    boolean invalid;
  }

  static final class Purchase {
    Integer buyer;
    int value;
    int hour;
    boolean told;
  }

  final List<Set<Integer>> persons = new ArrayList<>();
  final String[] consents = new String[20];
  final List<Set<Integer>> segments = new ArrayList<>();
  final List<Place> places = new ArrayList<>();
  final List<Campaign> campaigns = new ArrayList<>();
  final List<Request> requests = new ArrayList<>();
  final List<Purchase> purchases = new ArrayList<>();
  final TreeMap<Integer, List<Runnable>> coming = new TreeMap<>();
  int now = 0;
  int baseless = 0;

  ModelMarket() {
    for (int id = 0; id < 20; id++) {
      persons.add(new TreeSet<>(Set.of(id)));
      consents[id] = "a";
      segments.add(new TreeSet<>());
    }
  }

  private static void index(boolean good) {
    if (!good) {
      throw new IndexOutOfBoundsException();
    }
  }

  private static void argument(boolean good) {
    if (!good) {
      throw new IllegalArgumentException();
    }
  }

  private static void room(boolean good) {
    if (!good) {
      throw new IllegalStateException();
    }
  }

  private static boolean in(int n, int from, int to) {
    return from <= n && n <= to;
  }

  private Set<Integer> whole(int id) {
    for (Set<Integer> p : persons) {
      if (p.contains(id)) {
        return p;
      }
    }
    throw new AssertionError();
  }

  char setConsent(int id, char c) {
    index(in(id, 0, 19));
    argument("aln".indexOf(c) >= 0);
    char before = consents[id].charAt(0);
    consents[id] = "" + c;
    return before;
  }

  boolean setSegment(int id, int segment, boolean isIn) {
    index(in(id, 0, 19));
    argument(in(segment, 0, 7));
    return isIn ? !segments.get(id).add(segment) : segments.get(id).remove(segment);
  }

  boolean join(int id, int other) {
    index(in(id, 0, 19) && in(other, 0, 19));
    Set<Integer> one = whole(id);
    Set<Integer> two = whole(other);
    if (one == two) {
      return false;
    }
    persons.remove(two);
    one.addAll(two);
    return true;
  }

  int part(int id) {
    index(in(id, 0, 19));
    int before = whole(id).size();
    if (before > 1) {
      whole(id).remove(id);
      persons.add(new TreeSet<>(Set.of(id)));
    }
    return before;
  }

  int person(int id) {
    index(in(id, 0, 19));
    return whole(id).iterator().next();
  }

  char consent(int id) {
    index(in(id, 0, 19));
    StringBuilder all = new StringBuilder();
    for (int i : whole(id)) {
      all.append(consents[i]);
    }
    return all.indexOf("n") >= 0 ? 'n' : all.indexOf("l") >= 0 ? 'l' : 'a';
  }

  int forget(int id) {
    index(in(id, 0, 19));
    Set<Integer> gone = new TreeSet<>(whole(id));
    int count = 0;
    for (Request r : requests) {
      if (r.visitor != null && gone.contains(r.visitor)) {
        r.visitor = null;
        count++;
      }
    }
    for (Purchase p : purchases) {
      if (p.buyer != null && gone.contains(p.buyer)) {
        p.buyer = null;
      }
    }
    for (int i : gone) {
      part(i);
      segments.get(i).clear();
      consents[i] = "n";
    }
    return count;
  }

  int addPlace(int floor, char auction) {
    argument((auction == '1' || auction == '2') && in(floor, 1, 999));
    room(places.size() < 5);
    Place p = new Place();
    p.floor = floor;
    p.auction = auction;
    places.add(p);
    return places.size() - 1;
  }

  int setFloor(int place, int floor) {
    index(in(place, 0, places.size() - 1));
    argument(in(floor, 1, 999));
    int before = places.get(place).floor;
    places.get(place).floor = floor;
    return before;
  }

  boolean block(int place, int kind, boolean isBlocked) {
    index(in(place, 0, places.size() - 1));
    argument(in(kind, 0, 7));
    Set<Integer> blocked = places.get(place).blocked;
    return isBlocked ? !blocked.add(kind) : blocked.remove(kind);
  }

  int addReseller(int place, int reseller, int percent) {
    index(in(place, 0, places.size() - 1));
    argument(in(reseller, 0, 5) && in(percent, 0, 30));
    Place p = places.get(place);
    room(p.chain.size() < 3);
    List<int[]> longer = new ArrayList<>(p.chain);
    longer.add(new int[] {reseller, percent});
    p.chain = longer;
    return longer.size();
  }

  int addCampaign(int kind, int price, int budget, int cap, int segment) {
    argument(in(kind, 0, 7) && in(price, 1, 9999) && in(budget, 1, 99999));
    argument(in(cap, 1, 99) && in(segment, -1, 7));
    room(campaigns.size() < 8);
    Campaign c = new Campaign();
    c.kind = kind;
    c.price = price;
    c.budget = budget;
    c.cap = cap;
    c.segment = segment;
    campaigns.add(c);
    return campaigns.size() - 1;
  }

  boolean approve(int campaign, boolean isApproved) {
    index(in(campaign, 0, campaigns.size() - 1));
    boolean before = campaigns.get(campaign).approved;
    campaigns.get(campaign).approved = isApproved;
    return before;
  }

  int setPrice(int campaign, int price) {
    index(in(campaign, 0, campaigns.size() - 1));
    argument(in(price, 1, 9999));
    int before = campaigns.get(campaign).price;
    campaigns.get(campaign).price = price;
    return before;
  }

  int request(int place, int id) {
    index(in(place, 0, places.size() - 1) && in(id, 0, 19));
    room(requests.size() < 60);
    Request r = new Request();
    r.number = requests.size();
    r.place = places.get(place);
    r.visitor = id;
    r.hour = now;
    r.chain = r.place.chain;
    for (int c = 0; c < campaigns.size(); c++) {
      if (mayBid(c, place, id)) {
        r.bidders.add(c);
      }
    }
    r.bidders.sort((a, b) -> {
      int pa = campaigns.get(a).price;
      int pb = campaigns.get(b).price;
      return pa != pb ? pb - pa : a - b;
    });
    if (!r.bidders.isEmpty()) {
      int own = campaigns.get(r.bidders.get(0)).price;
      int next = r.bidders.size() > 1 ? campaigns.get(r.bidders.get(1)).price : r.place.floor;
      r.price = r.place.auction == '1' ? own : next;
      r.byConsent = campaigns.get(r.bidders.get(0)).segment < 0 || consent(id) == 'a';
    }
    requests.add(r);
    return r.number;
  }

  private Request found(int request) {
    index(in(request, 0, requests.size() - 1));
    return requests.get(request);
  }

  private static int won(Request r) {
    return r.bidders.isEmpty() ? -1 : r.bidders.get(0);
  }

  int winner(int request) {
    return won(found(request));
  }

  int priceOf(int request) {
    if (won(found(request)) < 0) {
      throw new NoSuchElementException();
    }
    return found(request).price;
  }

  int bids(int request) {
    return found(request).bidders.size();
  }

  int bidder(int request, int index) {
    Request r = found(request);
    if (!in(index, 0, r.bidders.size() - 1)) {
      throw new NoSuchElementException();
    }
    return r.bidders.get(index);
  }

  boolean mayBid(int campaign, int place, int id) {
    index(in(campaign, 0, campaigns.size() - 1) && in(place, 0, places.size() - 1));
    index(in(id, 0, 19));
    Campaign c = campaigns.get(campaign);
    Place p = places.get(place);
    if (!c.approved || p.blocked.contains(c.kind) || c.price < p.floor || consent(id) == 'n') {
      return false;
    }
    if (c.segment >= 0) {
      boolean has = false;
      for (int i : whole(id)) {
        has |= segments.get(i).contains(c.segment);
      }
      if (!has || consent(id) != 'a') {
        return false;
      }
    }
    int spent = charged(campaign, now / 24);
    int toHour = (int) Math.floor((double) c.budget * (now % 24 + 1) / 24);
    if (spent >= c.budget || spent > toHour) {
      return false;
    }
    int shown = 0;
    for (Request r : requests) {
      boolean today = r.shownIn != null && r.shownIn / 24 == now / 24 && !r.invalid;
      if (today && won(r) == campaign && r.visitor != null && whole(id).contains(r.visitor)) {
        shown++;
      }
    }
    return shown < c.cap;
  }

  private int onTheirWay() {
    int count = 0;
    for (List<Runnable> events : coming.values()) {
      count += events.size();
    }
    return count;
  }

  private void told(int delay, Runnable event) {
    if (delay == 0) {
      event.run();
    } else {
      coming.computeIfAbsent(now + delay, h -> new ArrayList<>()).add(event);
    }
  }

  int show(int request, int delay) {
    Request r = found(request);
    argument(in(delay, 0, 40));
    told(delay, () -> {
      if (won(r) < 0 || r.shownIn != null) {
        baseless++;
      } else {
        r.shownIn = now;
      }
    });
    return onTheirWay();
  }

  int click(int request, int delay) {
    Request r = found(request);
    argument(in(delay, 0, 40));
    told(delay, () -> {
      if (r.shownIn == null || r.clicked) {
        baseless++;
      } else {
        r.clicked = true;
      }
    });
    return onTheirWay();
  }

  int buy(int id, int value, int delay) {
    index(in(id, 0, 19));
    argument(in(value, 1, 9999) && in(delay, 0, 40));
    room(purchases.size() < 20);
    Purchase p = new Purchase();
    p.buyer = id;
    p.value = value;
    p.hour = now;
    purchases.add(p);
    told(delay, () -> p.told = true);
    return purchases.size() - 1;
  }

  int pass(int hours) {
    argument(in(hours, 1, 48));
    room(now + hours <= 2000);
    int end = now + hours;
    while (!coming.isEmpty() && coming.firstKey() <= end) {
      now = coming.firstKey();
      for (Runnable event : coming.remove(now)) {
        event.run();
      }
    }
    now = end;
    return now;
  }

  int sweep(int hour) {
    argument(hour >= 0 && hour < now);
    int count = 0;
    for (Set<Integer> person : persons) {
      List<Request> came = new ArrayList<>();
      for (Request r : requests) {
        boolean then = r.shownIn != null && r.shownIn == hour;
        if (then && r.visitor != null && person.contains(r.visitor)) {
          came.add(r);
        }
      }
      for (Request r : came) {
        if (came.size() > 3 && !r.invalid) {
          r.invalid = true;
          count++;
        }
      }
    }
    return count;
  }

  char stateOf(int request) {
    Request r = found(request);
    if (won(r) < 0) {
      return 'n';
    }
    if (r.shownIn == null) {
      return 'w';
    }
    return r.invalid ? 'i' : r.clicked ? 'k' : 'c';
  }

  int groundless() {
    return baseless;
  }

  int charged(int campaign, int day) {
    index(in(campaign, 0, campaigns.size() - 1));
    argument(day >= 0);
    int sum = 0;
    for (Request r : requests) {
      sum += r.shownIn != null && won(r) == campaign && r.shownIn / 24 == day ? r.price : 0;
    }
    return sum;
  }

  int credit(int campaign) {
    index(in(campaign, 0, campaigns.size() - 1));
    int sum = 0;
    for (Request r : requests) {
      sum += r.invalid && won(r) == campaign ? r.price : 0;
    }
    return sum;
  }

  /** What a reseller takes of a request, or, by -1, what the place keeps. */
  private static int portion(Request r, int reseller) {
    if (r.shownIn == null || r.invalid) {
      return 0;
    }
    int taken = 0;
    int own = 0;
    for (int[] link : r.chain) {
      int fee = r.price * link[1] / 100;
      taken += fee;
      own += link[0] == reseller ? fee : 0;
    }
    return reseller < 0 ? r.price - taken : own;
  }

  int revenue(int place) {
    index(in(place, 0, places.size() - 1));
    int sum = 0;
    for (Request r : requests) {
      sum += r.place == places.get(place) ? portion(r, -1) : 0;
    }
    return sum;
  }

  int fees(int reseller) {
    index(in(reseller, 0, 5));
    int sum = 0;
    for (Request r : requests) {
      sum += portion(r, reseller);
    }
    return sum;
  }

  private List<Request> thankedBy(Purchase p) {
    List<Request> all = new ArrayList<>();
    for (Request r : requests) {
      boolean counts = r.shownIn != null && !r.invalid && r.clicked && r.visitor != null;
      boolean inTime = p.hour - r.hour >= 0 && p.hour - r.hour <= 47;
      if (counts && inTime && p.buyer != null && whole(p.buyer).contains(r.visitor)) {
        all.add(r);
      }
    }
    return all;
  }

  private int share(Purchase p, Request r, char model) {
    List<Request> all = thankedBy(p);
    if (!all.contains(r)) {
      return 0;
    }
    Request latest = all.get(all.size() - 1);
    if (model == 'f') {
      return all.get(0) == r ? p.value : 0;
    }
    if (model == 'l') {
      return latest == r ? p.value : 0;
    }
    int each = p.value / all.size();
    return latest == r ? p.value - each * (all.size() - 1) : each;
  }

  int thanks(int purchase, int request, char model) {
    index(in(purchase, 0, purchases.size() - 1));
    Request r = found(request);
    argument("fle".indexOf(model) >= 0);
    Purchase p = purchases.get(purchase);
    if (!p.told || p.buyer == null) {
      throw new UnsupportedOperationException();
    }
    return share(p, r, model);
  }

  int thanked(int campaign, char model) {
    index(in(campaign, 0, campaigns.size() - 1));
    argument("fle".indexOf(model) >= 0);
    int sum = 0;
    for (Purchase p : purchases) {
      for (Request r : p.told ? thankedBy(p) : List.<Request>of()) {
        sum += won(r) == campaign ? share(p, r, model) : 0;
      }
    }
    return sum;
  }

  long paid() {
    long sum = 0;
    for (Request r : requests) {
      sum += r.shownIn != null && !r.invalid ? r.price : 0;
    }
    return sum;
  }

  long paidAnew() {
    return paid();
  }

  private int soldCount() {
    int won = 0;
    for (Request r : requests) {
      won += won(r) >= 0 ? 1 : 0;
    }
    return won;
  }

  float soldShare() {
    if (requests.isEmpty()) {
      throw new ArithmeticException();
    }
    return (float) soldCount() / (float) requests.size();
  }

  double meanPrice() {
    int won = soldCount();
    if (won == 0) {
      throw new ArithmeticException();
    }
    int sum = 0;
    for (Request r : requests) {
      sum += won(r) >= 0 ? r.price : 0;
    }
    return (double) sum / (double) won;
  }

  boolean isSound() {
    for (Request r : requests) {
      if (!r.byConsent) {
        return false;
      }
    }
    return true;
  }
}
