import java.lang.reflect.InvocationTargetException;
import java.lang.reflect.Method;
import java.lang.reflect.Modifier;
import java.util.Arrays;
import java.util.Comparator;
import java.util.List;
import java.util.Random;

/**
 * Calls of any kind with any arguments, far beyond the 512th: each answers or throws, itself, one
 * of the exceptions that its own line of the face names, and never what the machine throws.
 */
final class AnyCallTest {
  private static final int MARKETS = 200;
  private static final int CALLS = 3000;
  private static final String LETTERS = "alnfe12";
  private static final int[] EDGES = {Integer.MIN_VALUE, -2, -1, 8, 19, 20, 24, 40, 41, 47, 48, 49,
      59, 60, 99, 100, 511, 512, 513, 1999, 2000, 2001, 9999, 10000, 99999, Integer.MAX_VALUE};

  private final Random random;
  private final GlanceMarket x = new GlanceMarket();

  private AnyCallTest(long seed) {
    random = new Random(seed);
  }

  public static void main(String[] args) throws IllegalAccessException {
    Method[] face = Arrays.stream(GlanceMarket.class.getDeclaredMethods())
        .filter(m -> Modifier.isPublic(m.getModifiers()))
        .sorted(Comparator.comparing(Method::getName)).toArray(Method[]::new);
    for (long seed = 0; seed < MARKETS; seed++) {
      AnyCallTest test = new AnyCallTest(seed);
      for (int i = 0; i < CALLS; i++) {
        test.call(face[test.random.nextInt(face.length)]);
      }
    }
    Check.end();
  }

  private void call(Method method) throws IllegalAccessException {
    Object[] arguments = new Object[method.getParameterCount()];
    for (int i = 0; i < arguments.length; i++) {
      arguments[i] = any(method.getParameterTypes()[i]);
    }
    try {
      method.invoke(x, arguments);
    } catch (InvocationTargetException e) {
      Throwable thrown = e.getCause();
      boolean isNamed = List.of(method.getExceptionTypes()).contains(thrown.getClass());
      StackTraceElement[] trace = thrown.getStackTrace();
      boolean isOwn = trace.length > 0 && trace[0].getClassName().startsWith("GlanceMarket");
      Check.due("LANGUAGE 7: " + method.getName() + Arrays.toString(arguments) + " " + thrown,
          true, isNamed && isOwn);
    }
  }

  private Object any(Class<?> type) {
    if (type == boolean.class) {
      return random.nextInt(4) != 0;
    }
    if (type == char.class) {
      return random.nextInt(30) == 0 ? (char) random.nextInt(65536)
          : LETTERS.charAt(random.nextInt(LETTERS.length()));
    }
    int choice = random.nextInt(20);
    return choice == 0 ? EDGES[random.nextInt(EDGES.length)] : random.nextInt(choice < 15 ? 8 : 60);
  }
}
