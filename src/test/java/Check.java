/** Counts what is not as due, and ends a test's program with exit code 1 if anything was not. */
final class Check {
  interface Call {
    Object answer();
  }

  private static int wrong = 0;

  private Check() {}

  static void due(String what, Object want, Object got) {
    if (!want.equals(got)) {
      wrong++;
      System.out.println(what + " answered " + got + ", due is " + want);
    }
  }

  /** What a call answers, or throws.NameOfTheException. */
  static Object outcome(Call call) {
    try {
      return call.answer();
    } catch (RuntimeException e) {
      return "throws." + e.getClass().getSimpleName();
    }
  }

  static void bounds(String what, Call call) {
    due(what, "throws.IndexOutOfBoundsException", outcome(call));
  }

  static void argument(String what, Call call) {
    due(what, "throws.IllegalArgumentException", outcome(call));
  }

  static void state(String what, Call call) {
    due(what, "throws.IllegalStateException", outcome(call));
  }

  static void element(String what, Call call) {
    due(what, "throws.NoSuchElementException", outcome(call));
  }

  static void arithmetic(String what, Call call) {
    due(what, "throws.ArithmeticException", outcome(call));
  }

  static void unsupported(String what, Call call) {
    due(what, "throws.UnsupportedOperationException", outcome(call));
  }

  /** A call that throws this exception and leaves the market as it was. */
  static void refused(GlanceMarket x, String what, String exception, Call call) {
    String before = Inside.of(x);
    due(what, "throws." + exception, outcome(call));
    due(what + " changed nothing", true, before.equals(Inside.of(x)));
  }

  static void end() {
    if (wrong != 0) {
      System.out.println(wrong + " answers are not as due");
      System.exit(1);
    }
  }
}
