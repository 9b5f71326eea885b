import java.lang.reflect.Field;

/**
 * Promise 39 once more: no run of calls makes a market unsound, so this puts wrong numbers into
 * it from outside and sees that isSound tells.
 */
final class SoundTest {
  public static void main(String[] args) throws ReflectiveOperationException {
    Check.due("39: untouched", true, market().isSound());
    GlanceMarket x = market();
    ((int[]) field(x, "feesOf"))[3]++;
    Check.due("39: a fee too much", false, x.isSound());
    ((int[]) field(x, "feesOf"))[0]--;
    Check.due("39: the sum alone is looked at", true, x.isSound());

    GlanceMarket earned = market();
    add(row(earned, "places", 1), "earned", -1);
    Check.due("39: revenue too little", false, earned.isSound());

    GlanceMarket credited = market();
    add(row(credited, "campaigns", 1), "credited", 1);
    add(row(credited, "places", 0), "earned", -1);
    Check.due("39: a credit without ground", false, credited.isSound());

    GlanceMarket charged = market();
    ((int[]) field(row(charged, "campaigns", 0), "chargedOfDay"))[5]++;
    add(row(charged, "places", 0), "earned", 1);
    Check.due("39: a charge without ground", false, charged.isSound());

    GlanceMarket both = market();
    ((int[]) field(row(both, "campaigns", 1), "chargedOfDay"))[5]++;
    add(row(both, "campaigns", 1), "credited", 1);
    Check.due("39: both without ground", false, both.isSound());
    consents();
    thanks();
    Check.end();
  }

  private static void consents() throws ReflectiveOperationException {
    for (char consent : new char[] {'l', 'n'}) {
      GlanceMarket x = market();
      set(row(x, "requests", 0), "consent", consent);
      Check.due("39: won by a segment against " + consent, false, x.isSound());
      GlanceMarket y = market();
      set(row(y, "requests", 1), "consent", consent);
      Check.due("39: won without a segment", true, y.isSound());
      set(row(y, "requests", 2), "consent", consent);
      Check.due("39: not won", true, y.isSound());
    }
  }

  private static void thanks() {
    GlanceMarket x = market();
    x.buy(0, 50, 0);
    Check.due("39: thanks", true, x.isSound());
    Check.due("39: are given", 50, x.thanked(0, 'f'));
  }

  /** Request 0 is won by a segment and clicked, request 1 without a segment, request 2 by none. */
  private static GlanceMarket market() {
    GlanceMarket x = new GlanceMarket();
    x.addPlace(1, '1');
    x.addPlace(1, '1');
    x.addReseller(0, 0, 20);
    x.addReseller(1, 3, 20);
    x.addCampaign(0, 50, 99999, 99, 2);
    x.addCampaign(1, 40, 99999, 99, -1);
    x.approve(0, true);
    x.approve(1, true);
    x.setSegment(0, 2, true);
    x.request(0, 0);
    x.request(1, 1);
    x.setConsent(2, 'n');
    x.request(0, 2);
    for (int i = 0; i < 3; i++) {
      x.show(i, 0);
      x.click(i, 0);
    }
    return x;
  }

  private static Object field(Object owner, String name) throws ReflectiveOperationException {
    return open(owner, name).get(owner);
  }

  private static Object row(GlanceMarket x, String rows, int index)
      throws ReflectiveOperationException {
    return ((Object[]) field(x, rows))[index];
  }

  private static void add(Object row, String name, int more) throws ReflectiveOperationException {
    Field field = open(row, name);
    field.setInt(row, field.getInt(row) + more);
  }

  private static void set(Object row, String name, char letter)
      throws ReflectiveOperationException {
    open(row, name).setChar(row, letter);
  }

  private static Field open(Object owner, String name) throws ReflectiveOperationException {
    Field field = owner.getClass().getDeclaredField(name);
    field.setAccessible(true);
    return field;
  }
}
