/** Promises 22 to 28: showings, clicks and purchases, hours and sweeps. */
final class EventsTest {
  public static void main(String[] args) {
    show();
    click();
    buy();
    pass();
    orderOfEvents();
    chargedInTheHourOfComing();
    sweep();
    sweepOfJoined();
    sweepCountsPersonsAndHours();
    stateOf();
    groundless();
    Check.end();
  }

  private static void show() {
    GlanceMarket x = Markets.won(3);
    Check.due("22: at once", 0, x.show(0, 0));
    Check.due("22: charged", 'c', x.stateOf(0));
    Check.due("22: on its way", 1, x.show(1, 40));
    Check.due("22: on their way", 2, x.show(2, 1));
    Check.due("22: not yet", 'w', x.stateOf(2));
    Check.due("22: at once, the others are on their way", 2, x.show(0, 0));
    Check.due("22: without ground", 1, x.groundless());
    Check.bounds("22: request 3 comes first", () -> x.show(3, 41));
    Check.bounds("22: request -1", () -> x.show(-1, 0));
    Check.argument("22: delay 41", () -> x.show(0, 41));
    Check.argument("22: delay -1", () -> x.show(0, -1));
    Check.due("22: nothing told", 1, x.groundless());
    x.pass(1);
    Check.due("22: came", 'c', x.stateOf(2));
    x.pass(38);
    Check.due("22: not yet", 'w', x.stateOf(1));
    x.pass(1);
    Check.due("22: came", 'c', x.stateOf(1));
    Check.due("22: none is on its way", 0, x.show(0, 0));
  }

  private static void click() {
    GlanceMarket x = Markets.won(2);
    x.show(0, 0);
    Check.due("23: at once", 0, x.click(0, 0));
    Check.due("23: clicked", 'k', x.stateOf(0));
    Check.due("23: on its way", 1, x.click(0, 40));
    Check.due("23: on their way", 2, x.click(0, 40));
    Check.due("23: at once, two are on their way", 2, x.click(1, 0));
    Check.due("23: not charged", 1, x.groundless());
    x.show(1, 0);
    Check.due("23: without ground for good", 'c', x.stateOf(1));
    Check.bounds("23: request 2 comes first", () -> x.click(2, 41));
    Check.bounds("23: request -1", () -> x.click(-1, 0));
    Check.argument("23: delay 41", () -> x.click(0, 41));
    Check.argument("23: delay -1", () -> x.click(0, -1));
    x.pass(40);
    Check.due("23: clicked already", 3, x.groundless());
    Check.due("23: counts", 0, x.click(1, 0));
    Check.due("23: counts", 'k', x.stateOf(1));
  }

  private static void buy() {
    GlanceMarket x = Markets.won(1);
    x.show(0, 0);
    x.click(0, 0);
    Check.due("24: number 0", 0, x.buy(0, 1, 0));
    Check.due("24: number 1", 1, x.buy(19, 9999, 40));
    Check.due("24: is on its way", 1, x.show(0, 0));
    Check.due("24: told at once", 1, x.thanks(0, 0, 'f'));
    Check.unsupported("24: not told", () -> x.thanks(1, 0, 'f'));
    Check.bounds("24: id 20 comes first", () -> x.buy(20, 0, 0));
    Check.bounds("24: id -1", () -> x.buy(-1, 1, 0));
    Check.argument("24: value 0", () -> x.buy(0, 0, 0));
    Check.argument("24: value 10000", () -> x.buy(0, 10000, 0));
    Check.argument("24: delay 41", () -> x.buy(0, 1, 41));
    Check.argument("24: delay -1", () -> x.buy(0, 1, -1));
    Check.bounds("24: no such purchase yet", () -> x.thanks(2, 0, 'f'));
    x.pass(40);
    Check.due("24: told", 0, x.thanks(1, 0, 'f'));
    for (int i = 2; i < 20; i++) {
      Check.due("24: number", i, x.buy(0, 1, 0));
    }
    Check.state("24: 21", () -> x.buy(0, 1, 0));
    Check.bounds("24: 21, but first the id", () -> x.buy(20, 1, 0));
    Check.argument("24: 21, but first the value", () -> x.buy(0, 0, 0));
    Check.argument("24: 21, but first the delay", () -> x.buy(0, 1, 41));
    Check.due("24: no purchase is without ground", 1, x.groundless());
  }

  private static void pass() {
    GlanceMarket x = Markets.won(1);
    Check.argument("25: 0", () -> x.pass(0));
    Check.argument("25: 49", () -> x.pass(49));
    Check.argument("25: -1", () -> x.pass(-1));
    Check.argument("25: greatest", () -> x.pass(Integer.MAX_VALUE));
    Check.argument("25: lowest", () -> x.pass(Integer.MIN_VALUE));
    Check.due("25: 1", 1, x.pass(1));
    Check.due("25: 48", 49, x.pass(48));
    for (int hour = 49 + 48; hour <= 1969; hour += 48) {
      Check.due("25: 48 more", hour, x.pass(48));
    }
    x.show(0, 33);
    Check.state("25: above 2000", () -> x.pass(32));
    Check.argument("25: first the number", () -> x.pass(49));
    Check.due("25: 2000", 2000, x.pass(31));
    Check.state("25: 2001", () -> x.pass(1));
    Check.due("25: never comes", 'w', x.stateOf(0));
    x.show(0, 0);
    Check.due("25: the last day", 10, x.charged(0, 83));
    Check.due("25: the last hour is not over", 0, x.sweep(1999));
    Check.argument("25: the last hour is not over", () -> x.sweep(2000));
  }

  private static void orderOfEvents() {
    GlanceMarket x = Markets.won(3);
    x.click(0, 3);
    x.pass(1);
    x.show(0, 2);
    x.show(1, 2);
    x.pass(1);
    x.click(1, 1);
    x.show(2, 2);
    x.click(2, 1);
    x.pass(2);
    Check.due("25: told first comes first", 'c', x.stateOf(0));
    Check.due("25: told later comes later", 'k', x.stateOf(1));
    Check.due("25: an hour earlier comes earlier", 'c', x.stateOf(2));
    Check.due("25: two clicks without ground", 2, x.groundless());
    GlanceMarket y = Markets.won(1);
    y.show(0, 1);
    y.pass(1);
    y.click(0, 0);
    Check.due("25: of an hour as it begins, ahead of what is told in it", 'k', y.stateOf(0));
  }

  private static void chargedInTheHourOfComing() {
    GlanceMarket x = Markets.won(8);
    for (int i = 0; i < 4; i++) {
      x.show(i, 23);
      x.show(i + 4, 24);
    }
    x.pass(48);
    Check.due("25: the last hour of the day", 40, x.charged(0, 0));
    Check.due("25: the first hour of the next one", 40, x.charged(0, 1));
    Check.due("25: not in the hour of telling", 0, x.sweep(0));
    Check.due("25: in the hour of coming", 4, x.sweep(23));
    Check.due("25: in the hour of coming", 4, x.sweep(24));
    Check.due("25: not in the hour that is", 0, x.sweep(47));
  }

  private static void sweep() {
    GlanceMarket x = Markets.won(9);
    Check.argument("26: the first hour is not over", () -> x.sweep(0));
    Check.argument("26: below 0", () -> x.sweep(-1));
    for (int i = 0; i < 3; i++) {
      x.show(i, 0);
    }
    x.pass(1);
    Check.due("26: three are not more than 3", 0, x.sweep(0));
    for (int i = 3; i < 7; i++) {
      x.show(i, 0);
    }
    Check.argument("26: is not over", () -> x.sweep(1));
    x.pass(1);
    Check.argument("26: is to come", () -> x.sweep(3));
    Check.due("26: four", 4, x.sweep(1));
    Check.due("26: again", 0, x.sweep(1));
    Check.due("26: another hour stays", 'c', x.stateOf(0));
    Check.due("26: invalid", 'i', x.stateOf(6));
    Check.due("26: credited", 40, x.credit(0));
    Check.due("26: taken back", 30, x.revenue(0));
    Check.argument("26: still below 0", () -> x.sweep(-1));
  }

  private static void sweepOfJoined() {
    GlanceMarket x = Markets.won(4);
    x.request(0, 1);
    x.request(0, 2);
    for (int i = 0; i < 6; i++) {
      x.show(i, 0);
    }
    x.pass(1);
    Check.due("26: of the one person", 4, x.sweep(0));
    x.join(0, 1);
    Check.due("26: invalid ones included", 1, x.sweep(0));
    x.part(0);
    x.join(1, 2);
    Check.due("26: not of other persons", 0, x.sweep(0));
    Check.due("26: parted ones stay invalid", 'i', x.stateOf(4));
    Check.due("26: its own", 'c', x.stateOf(5));
  }

  private static void sweepCountsPersonsAndHours() {
    GlanceMarket x = Markets.won(3);
    x.request(0, 1);
    for (int i = 0; i < 4; i++) {
      x.show(i, 0);
    }
    x.pass(1);
    Check.due("26: four of two persons", 0, x.sweep(0));
    GlanceMarket y = Markets.won(4);
    y.addCampaign(1, 20, 99999, 99, -1);
    y.approve(1, true);
    y.request(0, 0);
    y.show(4, 0);
    for (int i = 0; i < 3; i++) {
      y.show(i, 0);
    }
    y.show(3, 1);
    y.pass(2);
    Check.due("26: of all campaigns in one hour", 4, y.sweep(0));
    Check.due("26: not of two hours", 0, y.sweep(1));
    Check.due("26: each its own credit", 20, y.credit(1));
  }

  private static void stateOf() {
    GlanceMarket x = Markets.won(4);
    x.approve(0, false);
    int lost = x.request(0, 0);
    Check.due("27: nobody won", 'n', x.stateOf(lost));
    Check.due("27: won", 'w', x.stateOf(0));
    for (int i = 0; i < 4; i++) {
      x.show(i, 0);
    }
    Check.due("27: charged, paused or not", 'c', x.stateOf(0));
    x.click(0, 0);
    Check.due("27: clicked", 'k', x.stateOf(0));
    x.pass(1);
    x.sweep(0);
    Check.due("27: invalid and clicked", 'i', x.stateOf(0));
    Check.due("27: invalid and not clicked", 'i', x.stateOf(1));
    x.click(1, 0);
    Check.due("27: invalid, then clicked", 'i', x.stateOf(1));
    Check.due("27: that click counted", 0, x.groundless());
    Check.bounds("27: request 5", () -> x.stateOf(5));
    Check.bounds("27: request -1", () -> x.stateOf(-1));
  }

  private static void groundless() {
    GlanceMarket x = Markets.won(1);
    x.approve(0, false);
    int lost = x.request(0, 0);
    x.show(lost, 0);
    Check.due("28: nobody won", 1, x.groundless());
    x.show(0, 0);
    Check.due("28: with ground", 1, x.groundless());
    x.show(0, 0);
    Check.due("28: charged already", 2, x.groundless());
    x.click(lost, 0);
    Check.due("28: not charged", 3, x.groundless());
    x.click(0, 0);
    Check.due("28: with ground", 3, x.groundless());
    x.click(0, 5);
    Check.due("28: on its way", 3, x.groundless());
    x.pass(5);
    Check.due("28: clicked already", 4, x.groundless());
    x.buy(0, 1, 0);
    Check.due("28: no purchase", 4, x.groundless());
  }
}
