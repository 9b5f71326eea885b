import java.util.NoSuchElementException;

/** The market of ../shared/DOC.md; each public method keeps the promise of its name there. */
public final class GlanceMarket {
  private static final int IDS = 20;
  private static final int SEGMENTS = 8;
  private static final int KINDS = 8;
  private static final int RESELLERS = 6;
  private static final int MAX_PLACES = 5;
  private static final int MAX_CHAIN = 3;
  private static final int MAX_CAMPAIGNS = 8;
  private static final int MAX_REQUESTS = 60;
  private static final int MAX_PURCHASES = 20;
  // Each call tells about one event at most, and an object is used for 512 calls.
  private static final int MAX_EVENTS = 512;

  private static final int MAX_FLOOR = 999;
  private static final int MAX_PERCENT = 30;
  private static final int MAX_PRICE = 9999;
  private static final int MAX_BUDGET = 99999;
  private static final int MAX_CAP = 99;
  private static final int MAX_VALUE = 9999;
  private static final int MAX_DELAY = 40;
  private static final int MAX_PASS = 48;

  private static final int HOURS_OF_DAY = 24;
  private static final int LAST_HOUR = 2000;
  private static final int DAYS = LAST_HOUR / HOURS_OF_DAY + 1;
  private static final int THANKS_HOURS = 48;
  private static final int HUMAN_SHOWINGS = 3;

  private static final int NONE = -1;
  private static final char ALL = 'a';
  private static final char WITHOUT_SEGMENTS = 'l';
  private static final char NOTHING = 'n';
  private static final char OWN_PRICE = '1';
  private static final char NEXT_PRICE = '2';
  private static final char FIRST = 'f';
  private static final char LAST = 'l';
  private static final char EQUAL = 'e';

  private static final int SHOWING = 0;
  private static final int CLICK = 1;
  private static final int PURCHASE = 2;

  private final Visitors visitors = new Visitors();
  private final Place[] places = new Place[MAX_PLACES];
  private final Campaign[] campaigns = new Campaign[MAX_CAMPAIGNS];
  private final Request[] requests = new Request[MAX_REQUESTS];
  private final Purchase[] purchases = new Purchase[MAX_PURCHASES];
  private final int[] feesOf = new int[RESELLERS];
  private final Events onTheirWay = new Events();
  private final Tally tally = new Tally();
  private int placeCount = 0;
  private int campaignCount = 0;
  private int requestCount = 0;
  private int purchaseCount = 0;
  private int groundlessCount = 0;
  private int hour = 0;

  // All rows are made here and filled later, so that no call makes an object.
  public GlanceMarket() {
    for (int i = 0; i < MAX_PLACES; i++) {
      places[i] = new Place();
    }
    for (int i = 0; i < MAX_CAMPAIGNS; i++) {
      campaigns[i] = new Campaign();
    }
    for (int i = 0; i < MAX_REQUESTS; i++) {
      requests[i] = new Request();
    }
    for (int i = 0; i < MAX_PURCHASES; i++) {
      purchases[i] = new Purchase();
    }
  }

  // ---- visitors

  public char setConsent(int id, char consent)
      throws IndexOutOfBoundsException, IllegalArgumentException {
    checkId(id);
    if (consent != ALL && consent != WITHOUT_SEGMENTS && consent != NOTHING) {
      throw new IllegalArgumentException("no such consent");
    }
    char before = visitors.consents[id];
    visitors.consents[id] = consent;
    return before;
  }

  public boolean setSegment(int id, int segment, boolean isIn)
      throws IndexOutOfBoundsException, IllegalArgumentException {
    checkId(id);
    checkRange(segment, 0, SEGMENTS - 1);
    boolean before = hasBit(visitors.segments[id], segment);
    visitors.segments[id] = withBit(visitors.segments[id], segment, isIn);
    return before;
  }

  public boolean join(int id, int other) throws IndexOutOfBoundsException {
    checkId(id);
    checkId(other);
    return visitors.unite(id, other);
  }

  public int part(int id) throws IndexOutOfBoundsException {
    checkId(id);
    return visitors.separate(id);
  }

  public int person(int id) throws IndexOutOfBoundsException {
    checkId(id);
    return visitors.personOf(id);
  }

  public char consent(int id) throws IndexOutOfBoundsException {
    checkId(id);
    return visitors.consentOf(visitors.personOf(id));
  }

  public int forget(int id) throws IndexOutOfBoundsException {
    checkId(id);
    int person = visitors.personOf(id);
    forgetPurchases(person);
    int forgotten = forgetRequests(person);
    visitors.erase(person);
    return forgotten;
  }

  private int forgetRequests(int person) {
    int forgotten = 0;
    for (int i = 0; i < requestCount; i++) {
      if (isOf(requests[i], person)) {
        requests[i].isForgotten = true;
        forgotten++;
      }
    }
    return forgotten;
  }

  private void forgetPurchases(int person) {
    for (int i = 0; i < purchaseCount; i++) {
      Purchase purchase = purchases[i];
      if (visitors.personOf(purchase.id) == person) {
        purchase.isForgotten = true;
      }
    }
  }

  // ---- places and campaigns

  public int addPlace(int floor, char auction)
      throws IllegalArgumentException, IllegalStateException {
    if (auction != OWN_PRICE && auction != NEXT_PRICE) {
      throw new IllegalArgumentException("no such auction");
    }
    checkRange(floor, 1, MAX_FLOOR);
    checkRoom(placeCount, MAX_PLACES);
    Place place = places[placeCount];
    place.floor = floor;
    place.auction = auction;
    placeCount++;
    return placeCount - 1;
  }

  public int setFloor(int place, int floor)
      throws IndexOutOfBoundsException, IllegalArgumentException {
    checkPlace(place);
    checkRange(floor, 1, MAX_FLOOR);
    int before = places[place].floor;
    places[place].floor = floor;
    return before;
  }

  public boolean block(int place, int kind, boolean isBlocked)
      throws IndexOutOfBoundsException, IllegalArgumentException {
    checkPlace(place);
    checkRange(kind, 0, KINDS - 1);
    boolean before = hasBit(places[place].blockedKinds, kind);
    places[place].blockedKinds = withBit(places[place].blockedKinds, kind, isBlocked);
    return before;
  }

  public int addReseller(int place, int reseller, int percent)
      throws IndexOutOfBoundsException, IllegalArgumentException, IllegalStateException {
    checkPlace(place);
    checkRange(reseller, 0, RESELLERS - 1);
    checkRange(percent, 0, MAX_PERCENT);
    Place seller = places[place];
    checkRoom(seller.chainLength, MAX_CHAIN);
    seller.resellers[seller.chainLength] = reseller;
    seller.percents[seller.chainLength] = percent;
    seller.chainLength++;
    return seller.chainLength;
  }

  public int addCampaign(int kind, int price, int budget, int cap, int segment)
      throws IllegalArgumentException, IllegalStateException {
    checkRange(kind, 0, KINDS - 1);
    checkRange(price, 1, MAX_PRICE);
    checkRange(budget, 1, MAX_BUDGET);
    checkRange(cap, 1, MAX_CAP);
    checkRange(segment, NONE, SEGMENTS - 1);
    checkRoom(campaignCount, MAX_CAMPAIGNS);
    Campaign campaign = campaigns[campaignCount];
    campaign.kind = kind;
    campaign.price = price;
    campaign.budget = budget;
    campaign.cap = cap;
    campaign.segment = segment;
    campaignCount++;
    return campaignCount - 1;
  }

  public boolean approve(int campaign, boolean isApproved) throws IndexOutOfBoundsException {
    checkCampaign(campaign);
    boolean before = campaigns[campaign].isApproved;
    campaigns[campaign].isApproved = isApproved;
    return before;
  }

  public int setPrice(int campaign, int price)
      throws IndexOutOfBoundsException, IllegalArgumentException {
    checkCampaign(campaign);
    checkRange(price, 1, MAX_PRICE);
    int before = campaigns[campaign].price;
    campaigns[campaign].price = price;
    return before;
  }

  // ---- requests and events

  public int request(int place, int id) throws IndexOutOfBoundsException, IllegalStateException {
    checkPlace(place);
    checkId(id);
    checkRoom(requestCount, MAX_REQUESTS);
    Request request = requests[requestCount];
    request.place = place;
    request.id = id;
    request.hour = hour;
    request.chainLength = places[place].chainLength;
    request.consent = visitors.consentOf(visitors.personOf(id));
    collectBids(request);
    settle(request);
    requestCount++;
    return requestCount - 1;
  }

  public int winner(int request) throws IndexOutOfBoundsException {
    checkRequest(request);
    return requests[request].winner;
  }

  public int priceOf(int request) throws IndexOutOfBoundsException, NoSuchElementException {
    checkRequest(request);
    if (!requests[request].isWon()) {
      throw new NoSuchElementException("nobody won");
    }
    return requests[request].price;
  }

  public int bids(int request) throws IndexOutOfBoundsException {
    checkRequest(request);
    return requests[request].bidCount;
  }

  public int bidder(int request, int index)
      throws IndexOutOfBoundsException, NoSuchElementException {
    checkRequest(request);
    if (index < 0 || index >= requests[request].bidCount) {
      throw new NoSuchElementException("no such bid");
    }
    return requests[request].bidders[index];
  }

  public boolean mayBid(int campaign, int place, int id) throws IndexOutOfBoundsException {
    checkCampaign(campaign);
    checkPlace(place);
    checkId(id);
    return wouldBid(campaign, places[place], visitors.personOf(id));
  }

  public int show(int request, int delay)
      throws IndexOutOfBoundsException, IllegalArgumentException {
    checkRequest(request);
    checkRange(delay, 0, MAX_DELAY);
    tell(SHOWING, request, delay);
    return onTheirWay.count;
  }

  public int click(int request, int delay)
      throws IndexOutOfBoundsException, IllegalArgumentException {
    checkRequest(request);
    checkRange(delay, 0, MAX_DELAY);
    tell(CLICK, request, delay);
    return onTheirWay.count;
  }

  public int buy(int id, int value, int delay)
      throws IndexOutOfBoundsException, IllegalArgumentException, IllegalStateException {
    checkId(id);
    checkRange(value, 1, MAX_VALUE);
    checkRange(delay, 0, MAX_DELAY);
    checkRoom(purchaseCount, MAX_PURCHASES);
    Purchase purchase = purchases[purchaseCount];
    purchase.id = id;
    purchase.value = value;
    purchase.hour = hour;
    tell(PURCHASE, purchaseCount, delay);
    purchaseCount++;
    return purchaseCount - 1;
  }

  public int pass(int hours) throws IllegalArgumentException, IllegalStateException {
    checkRange(hours, 1, MAX_PASS);
    if (hour + hours > LAST_HOUR) {
      throw new IllegalStateException("above the last hour");
    }
    for (int i = 0; i < hours; i++) {
      hour++;
      deliver();
    }
    return hour;
  }

  public int sweep(int hour) throws IllegalArgumentException {
    checkRange(hour, 0, this.hour - 1);
    int swept = 0;
    for (int i = 0; i < requestCount; i++) {
      Request request = requests[i];
      if (request.chargedHour == hour && !request.isInvalid && isTooOften(request)) {
        invalidate(request);
        swept++;
      }
    }
    return swept;
  }

  public char stateOf(int request) throws IndexOutOfBoundsException {
    checkRequest(request);
    return requests[request].state();
  }

  public int groundless() {
    return groundlessCount;
  }

  private boolean wouldBid(int number, Place place, int person) {
    Campaign campaign = campaigns[number];
    return campaign.isApproved
        && campaign.price >= place.floor
        && !hasBit(place.blockedKinds, campaign.kind)
        && isAllowed(campaign, person)
        && campaign.hasBudgetIn(hour)
        && shownToday(number, person) < campaign.cap;
  }

  private boolean isAllowed(Campaign campaign, int person) {
    char consent = visitors.consentOf(person);
    if (campaign.segment == NONE) {
      return consent != NOTHING;
    }
    return consent == ALL && hasBit(visitors.segmentsOf(person), campaign.segment);
  }

  private int shownToday(int campaign, int person) {
    int shown = 0;
    for (int i = 0; i < requestCount; i++) {
      Request request = requests[i];
      if (request.winner == campaign
          && request.isValid()
          && dayOf(request.chargedHour) == dayOf(hour)
          && isOf(request, person)) {
        shown++;
      }
    }
    return shown;
  }

  private void collectBids(Request request) {
    int person = visitors.personOf(request.id);
    for (int i = 0; i < campaignCount; i++) {
      if (wouldBid(i, places[request.place], person)) {
        rankBid(request, i);
      }
    }
  }

  // Bids come by their numbers: one that stays behind its equals leaves the lowest number ahead.
  private void rankBid(Request request, int campaign) {
    int price = campaigns[campaign].price;
    int rank = request.bidCount;
    while (rank > 0 && campaigns[request.bidders[rank - 1]].price < price) {
      request.bidders[rank] = request.bidders[rank - 1];
      rank--;
    }
    request.bidders[rank] = campaign;
    request.bidCount++;
  }

  private void settle(Request request) {
    if (request.bidCount == 0) {
      return;
    }
    Place place = places[request.place];
    request.winner = request.bidders[0];
    if (place.auction == OWN_PRICE) {
      request.price = campaigns[request.winner].price;
    } else if (request.bidCount > 1) {
      request.price = campaigns[request.bidders[1]].price;
    } else {
      request.price = place.floor;
    }
  }

  private void tell(int kind, int target, int delay) {
    if (delay == 0) {
      comes(kind, target);
    } else {
      onTheirWay.put(kind, target, hour + delay);
    }
  }

  private void deliver() {
    int count = onTheirWay.count;
    onTheirWay.count = 0;
    for (int i = 0; i < count; i++) {
      if (onTheirWay.hours[i] == hour) {
        comes(onTheirWay.kinds[i], onTheirWay.targets[i]);
      } else {
        // Put back at or ahead of its own row, so that no row is lost before it is read.
        onTheirWay.put(onTheirWay.kinds[i], onTheirWay.targets[i], onTheirWay.hours[i]);
      }
    }
  }

  private void comes(int kind, int target) {
    if (kind == SHOWING) {
      showingComes(requests[target]);
    } else if (kind == CLICK) {
      clickComes(requests[target]);
    } else {
      purchases[target].isTold = true;
    }
  }

  private void showingComes(Request request) {
    if (!request.isWon() || request.isCharged()) {
      groundlessCount++;
      return;
    }
    request.chargedHour = hour;
    campaigns[request.winner].chargedOfDay[dayOf(hour)] += request.price;
    spread(request, 1);
  }

  private void clickComes(Request request) {
    if (!request.isCharged() || request.isClicked) {
      groundlessCount++;
      return;
    }
    request.isClicked = true;
  }

  private boolean isTooOften(Request request) {
    if (request.isForgotten) {
      return false;
    }
    int person = visitors.personOf(request.id);
    int showings = 0;
    for (int i = 0; i < requestCount; i++) {
      if (requests[i].chargedHour == request.chargedHour && isOf(requests[i], person)) {
        showings++;
      }
    }
    return showings > HUMAN_SHOWINGS;
  }

  private void invalidate(Request request) {
    request.isInvalid = true;
    campaigns[request.winner].credited += request.price;
    spread(request, -1);
  }

  // ---- money and thanks

  public int charged(int campaign, int day)
      throws IndexOutOfBoundsException, IllegalArgumentException {
    checkCampaign(campaign);
    if (day < 0) {
      throw new IllegalArgumentException("no such day");
    }
    return day < DAYS ? campaigns[campaign].chargedOfDay[day] : 0;
  }

  public int credit(int campaign) throws IndexOutOfBoundsException {
    checkCampaign(campaign);
    return campaigns[campaign].credited;
  }

  public int revenue(int place) throws IndexOutOfBoundsException {
    checkPlace(place);
    return places[place].earned;
  }

  public int fees(int reseller) throws IndexOutOfBoundsException {
    checkIndex(reseller, RESELLERS);
    return feesOf[reseller];
  }

  public int thanks(int purchase, int request, char model)
      throws IndexOutOfBoundsException, IllegalArgumentException, UnsupportedOperationException {
    checkIndex(purchase, purchaseCount);
    checkRequest(request);
    checkModel(model);
    if (!purchases[purchase].isThankful()) {
      throw new UnsupportedOperationException("not told, or forgotten");
    }
    takeTally(purchases[purchase]);
    return thanksOf(purchases[purchase], request, model);
  }

  public int thanked(int campaign, char model)
      throws IndexOutOfBoundsException, IllegalArgumentException {
    checkCampaign(campaign);
    checkModel(model);
    int sum = 0;
    for (int i = 0; i < purchaseCount; i++) {
      if (purchases[i].isThankful()) {
        takeTally(purchases[i]);
        sum += thanksTo(campaign, purchases[i], model);
      }
    }
    return sum;
  }

  public long paid() {
    long sum = 0;
    for (int i = 0; i < campaignCount; i++) {
      sum += campaigns[i].chargedInAll() - campaigns[i].credited;
    }
    return sum;
  }

  public long paidAnew() {
    long sum = 0;
    for (int i = 0; i < placeCount; i++) {
      sum += places[i].earned;
    }
    for (int i = 0; i < RESELLERS; i++) {
      sum += feesOf[i];
    }
    return sum;
  }

  // A chain only grows, so that its length at the request tells the chain as it was then.
  private void spread(Request request, int sign) {
    Place place = places[request.place];
    int rest = request.price;
    for (int i = 0; i < request.chainLength; i++) {
      int fee = request.price * place.percents[i] / 100;
      feesOf[place.resellers[i]] += sign * fee;
      rest -= fee;
    }
    place.earned += sign * rest;
  }

  private void takeTally(Purchase purchase) {
    tally.clear();
    for (int i = 0; i < requestCount; i++) {
      if (isThankedBy(purchase, requests[i])) {
        tally.add(i);
      }
    }
  }

  private boolean isThankedBy(Purchase purchase, Request request) {
    return request.isValid()
        && request.isClicked
        && request.hour <= purchase.hour
        && request.hour > purchase.hour - THANKS_HOURS
        && isOf(request, visitors.personOf(purchase.id));
  }

  // Rests on the tally of this purchase.
  private int thanksOf(Purchase purchase, int request, char model) {
    if (!isThankedBy(purchase, requests[request]) || tally.count == 0) {
      return 0;
    }
    if (model == FIRST) {
      return request == tally.first ? purchase.value : 0;
    }
    if (model == LAST) {
      return request == tally.last ? purchase.value : 0;
    }
    int left = request == tally.last ? purchase.value % tally.count : 0;
    return purchase.value / tally.count + left;
  }

  // Rests on the tally of this purchase.
  private int thanksTo(int campaign, Purchase purchase, char model) {
    int sum = 0;
    for (int i = 0; i < requestCount; i++) {
      if (requests[i].winner == campaign) {
        sum += thanksOf(purchase, i, model);
      }
    }
    return sum;
  }

  // ---- figures

  public float soldShare() throws ArithmeticException {
    if (requestCount == 0) {
      throw new ArithmeticException("no requests");
    }
    return (float) wonCount() / (float) requestCount;
  }

  public double meanPrice() throws ArithmeticException {
    int won = wonCount();
    if (won == 0) {
      throw new ArithmeticException("no requests that were won");
    }
    int sum = 0;
    for (int i = 0; i < requestCount; i++) {
      if (requests[i].isWon()) {
        sum += requests[i].price;
      }
    }
    return (double) sum / (double) won;
  }

  public boolean isSound() {
    if (paid() != paidAnew()) {
      return false;
    }
    for (int i = 0; i < campaignCount; i++) {
      if (!isCampaignSound(i)) {
        return false;
      }
    }
    for (int i = 0; i < requestCount; i++) {
      if (!isConsentKept(requests[i])) {
        return false;
      }
    }
    for (int i = 0; i < purchaseCount; i++) {
      if (purchases[i].isThankful() && !isPurchaseSound(purchases[i])) {
        return false;
      }
    }
    return true;
  }

  private int wonCount() {
    int won = 0;
    for (int i = 0; i < requestCount; i++) {
      if (requests[i].isWon()) {
        won++;
      }
    }
    return won;
  }

  private boolean isCampaignSound(int number) {
    int chargedSum = 0;
    int invalidSum = 0;
    for (int i = 0; i < requestCount; i++) {
      Request request = requests[i];
      if (request.winner == number && request.isCharged()) {
        chargedSum += request.price;
        invalidSum += request.isInvalid ? request.price : 0;
      }
    }
    Campaign campaign = campaigns[number];
    return campaign.chargedInAll() == chargedSum && campaign.credited == invalidSum;
  }

  private boolean isConsentKept(Request request) {
    return !request.isWon()
        || campaigns[request.winner].segment == NONE
        || request.consent == ALL;
  }

  private boolean isPurchaseSound(Purchase purchase) {
    takeTally(purchase);
    int due = tally.count == 0 ? 0 : purchase.value;
    return thanksInAll(purchase, FIRST) == due
        && thanksInAll(purchase, LAST) == due
        && thanksInAll(purchase, EQUAL) == due;
  }

  private int thanksInAll(Purchase purchase, char model) {
    int sum = 0;
    for (int i = 0; i < requestCount; i++) {
      sum += thanksOf(purchase, i, model);
    }
    return sum;
  }

  // What several of the calls above rest on.

  private void checkId(int id) {
    checkIndex(id, IDS);
  }

  private void checkPlace(int place) {
    checkIndex(place, placeCount);
  }

  private void checkCampaign(int campaign) {
    checkIndex(campaign, campaignCount);
  }

  private void checkRequest(int request) {
    checkIndex(request, requestCount);
  }

  private void checkModel(char model) {
    if (model != FIRST && model != LAST && model != EQUAL) {
      throw new IllegalArgumentException("no such model");
    }
  }

  private static void checkIndex(int index, int count) {
    if (index < 0 || index >= count) {
      throw new IndexOutOfBoundsException("no such number");
    }
  }

  private static void checkRange(int number, int lowest, int greatest) {
    if (number < lowest || number > greatest) {
      throw new IllegalArgumentException("out of range");
    }
  }

  private static void checkRoom(int count, int limit) {
    if (count >= limit) {
      throw new IllegalStateException("no room for one more");
    }
  }

  private boolean isOf(Request request, int person) {
    return !request.isForgotten && visitors.personOf(request.id) == person;
  }

  private static int dayOf(int hour) {
    return hour / HOURS_OF_DAY;
  }

  private static boolean hasBit(int bits, int bit) {
    return (bits >> bit & 1) == 1;
  }

  private static int withBit(int bits, int bit, boolean isSet) {
    return isSet ? bits | 1 << bit : bits & ~(1 << bit);
  }

  /** Who the ids are: a person goes by its lowest id. */
  private static final class Visitors {
    final char[] consents = new char[IDS];
    final int[] segments = new int[IDS];
    private final int[] lowest = new int[IDS];

    Visitors() {
      for (int i = 0; i < IDS; i++) {
        consents[i] = ALL;
        lowest[i] = i;
      }
    }

    int personOf(int id) {
      return lowest[id];
    }

    boolean unite(int id, int other) {
      int kept = Math.min(lowest[id], lowest[other]);
      int given = Math.max(lowest[id], lowest[other]);
      for (int i = 0; i < IDS; i++) {
        if (lowest[i] == given) {
          lowest[i] = kept;
        }
      }
      return kept != given;
    }

    int separate(int id) {
      int person = lowest[id];
      int rest = NONE;
      int ids = 1;
      for (int i = 0; i < IDS; i++) {
        if (i != id && lowest[i] == person) {
          // The id that leaves may have been the lowest: the next one stands for the others.
          rest = rest == NONE ? i : rest;
          lowest[i] = rest;
          ids++;
        }
      }
      lowest[id] = id;
      return ids;
    }

    void erase(int person) {
      for (int i = 0; i < IDS; i++) {
        if (lowest[i] == person) {
          lowest[i] = i;
          segments[i] = 0;
          consents[i] = NOTHING;
        }
      }
    }

    char consentOf(int person) {
      char strictest = ALL;
      for (int i = 0; i < IDS; i++) {
        // The letters a, l, n stand in the order of their strictness.
        if (lowest[i] == person && consents[i] > strictest) {
          strictest = consents[i];
        }
      }
      return strictest;
    }

    int segmentsOf(int person) {
      int all = 0;
      for (int i = 0; i < IDS; i++) {
        if (lowest[i] == person) {
          all |= segments[i];
        }
      }
      return all;
    }
  }

  private static final class Place {
    int floor = 0;
    char auction = OWN_PRICE;
    int blockedKinds = 0;
    final int[] resellers = new int[MAX_CHAIN];
    final int[] percents = new int[MAX_CHAIN];
    int chainLength = 0;
    int earned = 0;
  }

  private static final class Campaign {
    int kind = 0;
    int price = 0;
    int budget = 0;
    int cap = 0;
    int segment = NONE;
    boolean isApproved = false;
    final int[] chargedOfDay = new int[DAYS];
    int credited = 0;

    boolean hasBudgetIn(int hour) {
      int spent = chargedOfDay[dayOf(hour)];
      int paced = budget * (hour % HOURS_OF_DAY + 1) / HOURS_OF_DAY;
      return spent < budget && spent <= paced;
    }

    int chargedInAll() {
      int sum = 0;
      for (int i = 0; i < DAYS; i++) {
        sum += chargedOfDay[i];
      }
      return sum;
    }
  }

  private static final class Request {
    int place = 0;
    int id = 0;
    int hour = 0;
    int chainLength = 0;
    char consent = NOTHING;
    final int[] bidders = new int[MAX_CAMPAIGNS];
    int bidCount = 0;
    int winner = NONE;
    int price = 0;
    int chargedHour = NONE;
    boolean isClicked = false;
    boolean isInvalid = false;
    boolean isForgotten = false;

    boolean isWon() {
      return winner != NONE;
    }

    boolean isCharged() {
      return chargedHour != NONE;
    }

    boolean isValid() {
      return isCharged() && !isInvalid;
    }

    char state() {
      if (isInvalid) {
        return 'i';
      }
      if (isCharged()) {
        return isClicked ? 'k' : 'c';
      }
      return isWon() ? 'w' : 'n';
    }
  }

  private static final class Purchase {
    int id = 0;
    int value = 0;
    int hour = 0;
    boolean isTold = false;
    boolean isForgotten = false;

    boolean isThankful() {
      return isTold && !isForgotten;
    }
  }

  /** The events on their way, in the order in which they were told about. */
  private static final class Events {
    final int[] kinds = new int[MAX_EVENTS];
    final int[] targets = new int[MAX_EVENTS];
    final int[] hours = new int[MAX_EVENTS];
    int count = 0;

    void put(int kind, int target, int hour) {
      if (count >= MAX_EVENTS) {
        return;
      }
      kinds[count] = kind;
      targets[count] = target;
      hours[count] = hour;
      count++;
    }
  }

  /** What one purchase thanks: how many requests, the earliest and the latest one. */
  private static final class Tally {
    int count = 0;
    int first = NONE;
    int last = NONE;

    void clear() {
      count = 0;
      first = NONE;
      last = NONE;
    }

    void add(int request) {
      first = count == 0 ? request : first;
      last = request;
      count++;
    }
  }
}
