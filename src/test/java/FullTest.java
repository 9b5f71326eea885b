/** A market in which all that is numbered is full: every call still answers. */
final class FullTest {
  public static void main(String[] args) {
    GlanceMarket x = Markets.full();
    numbersAreDue(x);
    thanksAreDue(x);
    x.pass(1);
    Check.due("26: all", 60, x.sweep(0));
    Check.due("31: all of it", 0, x.revenue(4));
    Check.due("35: all of it", 0L, x.paid());
    Check.due("36: all of it", 0L, x.paidAnew());
    Check.due("39: swept", true, x.isSound());
    Check.due("8: all", 60, x.forget(19));
    Check.due("39: forgotten", true, x.isSound());
    manyEvents();
    beyondTheLastCall();
    Check.end();
  }

  private static void numbersAreDue(GlanceMarket x) {
    Check.due("21: may bid", true, x.mayBid(7, 4, 19));
    Check.due("19: eight", 8, x.bids(59));
    Check.due("20: the last", 7, x.bidder(59, 7));
    Check.element("20: none behind", () -> x.bidder(59, 8));
    Check.due("29: all by the lowest number", 600, x.charged(0, 0));
    Check.due("31: ten percent", 12, x.revenue(4));
    Check.due("32: thirty percent", 180, x.fees(5));
    Check.due("35: all", 600L, x.paid());
    Check.due("36: all", 600L, x.paidAnew());
    Check.due("37: all", 1.0f, x.soldShare());
    Check.due("38: mean", 10.0, x.meanPrice());
    Check.due("39: sound", true, x.isSound());
  }

  private static void thanksAreDue(GlanceMarket x) {
    Check.due("33: first", 9999, x.thanks(19, 0, 'f'));
    Check.due("33: last", 9999, x.thanks(19, 59, 'l'));
    Check.due("33: each", 166, x.thanks(19, 58, 'e'));
    Check.due("33: left", 166 + 39, x.thanks(19, 59, 'e'));
    Check.due("34: the winner", 20 * 9999, x.thanked(0, 'e'));
    Check.due("34: another", 0, x.thanked(7, 'e'));
  }

  private static void manyEvents() {
    GlanceMarket x = new GlanceMarket();
    x.addPlace(1, '1');
    x.request(0, 0);
    for (int i = 1; i <= 508; i++) {
      Check.due("22: on their way", i, x.show(0, i % 40 + 1));
    }
    Check.due("25: all come", 40, x.pass(40));
    Check.due("28: all without ground", 508, x.groundless());
  }

  /** What is answered behind the 512th call is free, but the machine may not throw there either. */
  private static void beyondTheLastCall() {
    GlanceMarket x = Markets.won(1);
    for (int i = 0; i < 2000; i++) {
      Check.due("LANGUAGE 7", true, Check.outcome(() -> x.show(0, 40)) instanceof Integer);
    }
    for (int i = 0; i < 3; i++) {
      Check.due("LANGUAGE 7", true, Check.outcome(() -> x.pass(48)) instanceof Integer);
    }
  }
}
