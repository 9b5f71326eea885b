import java.lang.reflect.Constructor;
import java.lang.reflect.Field;
import java.lang.reflect.Method;
import java.lang.reflect.Modifier;
import java.util.ArrayList;
import java.util.Arrays;
import java.util.Collections;
import java.util.HashSet;
import java.util.List;
import java.util.Set;

/** The public face is the document's, and nothing else of the class can be seen. */
final class FaceTest {
  private static final String I = "IndexOutOfBoundsException";
  private static final String A = "IllegalArgumentException";
  private static final String S = "IllegalStateException";
  private static final String N = "NoSuchElementException";
  private static final String U = "UnsupportedOperationException";
  private static final String R = "ArithmeticException";

  public static void main(String[] args) {
    List<String> due = new ArrayList<>(List.of(
        "char setConsent(int, char)" + I + A, "boolean setSegment(int, int, boolean)" + I + A,
        "boolean join(int, int)" + I, "int part(int)" + I, "int person(int)" + I,
        "char consent(int)" + I, "int forget(int)" + I, "int addPlace(int, char)" + A + S,
        "int setFloor(int, int)" + I + A, "boolean block(int, int, boolean)" + I + A));
    due.addAll(List.of(
        "int addReseller(int, int, int)" + I + A + S,
        "int addCampaign(int, int, int, int, int)" + A + S, "boolean approve(int, boolean)" + I,
        "int setPrice(int, int)" + I + A, "int request(int, int)" + I + S, "int winner(int)" + I,
        "int priceOf(int)" + I + N, "int bids(int)" + I, "int bidder(int, int)" + I + N,
        "boolean mayBid(int, int, int)" + I));
    due.addAll(List.of(
        "int show(int, int)" + I + A, "int click(int, int)" + I + A,
        "int buy(int, int, int)" + I + A + S, "int pass(int)" + A + S, "int sweep(int)" + A,
        "char stateOf(int)" + I, "int groundless()", "int charged(int, int)" + I + A,
        "int credit(int)" + I, "int revenue(int)" + I));
    due.addAll(List.of(
        "int fees(int)" + I, "int thanks(int, int, char)" + I + A + U,
        "int thanked(int, char)" + I + A, "long paid()", "long paidAnew()",
        "float soldShare()" + R, "double meanPrice()" + R, "boolean isSound()"));
    Collections.sort(due);
    Class<?> face = GlanceMarket.class;
    Check.due("modifiers", Modifier.PUBLIC | Modifier.FINAL, face.getModifiers());
    Check.due("public methods", due, publicMethods(face));
    membersAreHidden(face);
    Check.end();
  }

  private static List<String> publicMethods(Class<?> face) {
    List<String> seen = new ArrayList<>();
    for (Method m : face.getDeclaredMethods()) {
      if (Modifier.isPublic(m.getModifiers())) {
        StringBuilder text = new StringBuilder(m.getReturnType() + " " + m.getName());
        String parameters = Arrays.toString(m.getParameterTypes());
        text.append('(').append(parameters, 1, parameters.length() - 1).append(')');
        for (Class<?> thrown : m.getExceptionTypes()) {
          text.append(thrown.getSimpleName());
        }
        seen.add(text.toString());
      }
    }
    Collections.sort(seen);
    return seen;
  }

  private static void membersAreHidden(Class<?> face) {
    Set<String> faceNames = new HashSet<>();
    for (Method m : face.getDeclaredMethods()) {
      if (Modifier.isPublic(m.getModifiers())) {
        faceNames.add(m.getName());
      } else {
        Check.due(m + " is private", true, Modifier.isPrivate(m.getModifiers()));
      }
    }
    for (Field f : face.getDeclaredFields()) {
      Check.due(f + " is private", true, Modifier.isPrivate(f.getModifiers()));
      if (Modifier.isStatic(f.getModifiers())) {
        Check.due(f + " is final", true, Modifier.isFinal(f.getModifiers()));
      }
    }
    Constructor<?>[] made = face.getDeclaredConstructors();
    Check.due("one constructor", 1, made.length);
    Check.due("is public", true, Modifier.isPublic(made[0].getModifiers()));
    ownNamesAreOthers(face, face.getDeclaredMethods(), faceNames);
    for (Class<?> inside : face.getDeclaredClasses()) {
      Check.due(inside + " is static", true, Modifier.isStatic(inside.getModifiers()));
      Check.due(inside + " is hidden", false, Modifier.isPublic(inside.getModifiers()));
      Check.due(inside + " has few fields", true, inside.getDeclaredFields().length <= 20);
      ownNamesAreOthers(inside, inside.getDeclaredMethods(), faceNames);
    }
  }

  private static void ownNamesAreOthers(Class<?> owner, Method[] methods, Set<String> faceNames) {
    for (Method m : methods) {
      if (!Modifier.isPublic(m.getModifiers())) {
        Check.due(owner + " " + m.getName() + " is a name of its own", false,
            faceNames.contains(m.getName()));
      }
      Check.due(m + " has few parameters", true, m.getParameterCount() <= 7);
    }
  }
}
