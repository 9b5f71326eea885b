import java.io.IOException;
import java.nio.charset.StandardCharsets;
import java.nio.file.Files;
import java.nio.file.Path;
import java.util.regex.Matcher;
import java.util.regex.Pattern;

/** Looks in the source for what ../shared/LANGUAGE.md leaves out, as far as plain text tells. */
final class LanguageTest {
  private static final String[] FORBIDDEN = {
    "->", "::", "\\btry\\b", "\\bcatch\\b", "\\bfinally\\b", "\\bsynchronized\\b", "\\bassert\\b",
    "\\bpackage\\b", "\\bvar\\b", "\\bThread\\b", "\\bSystem\\.(?!arraycopy)", "Exact\\(",
    "\\bMath\\.(?!(abs|min|max|floorDiv|floorMod)\\b)", "\\bString\\.", "\\bObject\\b",
    "static\\s*\\{", "\\bequals\\b", "\\bhashCode\\b", "\\btoString\\b", "\\bprotected\\b",
    "\"\\s*\\+", "\\+\\s*\"",
  };
  private static final Pattern THROW = Pattern.compile(
      "throw new (IllegalState|IllegalArgument|IndexOutOfBounds|Arithmetic|UnsupportedOperation"
          + "|NoSuchElement|Runtime)(Exception)?Exception\\((\"[^\"]*\")?\\);");

  public static void main(String[] args) throws IOException {
    Path path = Path.of("src/main/java/GlanceMarket.java");
    String source = Files.readString(path, StandardCharsets.ISO_8859_1);
    for (int i = 0; i < source.length(); i++) {
      Check.due("sign at " + i, true, source.charAt(i) >= 1 && source.charAt(i) <= 127);
    }
    String code = source.replaceAll("(?s)/\\*.*?\\*/", "").replaceAll("//[^\n]*", "");
    for (String pattern : FORBIDDEN) {
      Check.due(pattern, false, Pattern.compile(pattern).matcher(code).find());
    }
    Matcher imports = Pattern.compile("import ([^;]*);").matcher(code);
    while (imports.find()) {
      Check.due("import", "java.util.NoSuchElementException", imports.group(1));
    }
    Check.due("throws of the known form", count(Pattern.compile("throw "), code),
        count(THROW, code));
    Check.due("few classes", true, count(Pattern.compile("\\bclass\\b"), code) <= 12);
    methodsAreShort(source);
    Check.end();
  }

  /** Methods stand apart by empty lines: what stands between two is at most one of them. */
  private static void methodsAreShort(String source) {
    for (String part : source.split("\n\\s*\n")) {
      Check.due("some sixty lines: " + part.lines().findFirst(), true, part.lines().count() <= 60);
    }
  }

  private static int count(Pattern pattern, String code) {
    int found = 0;
    Matcher matcher = pattern.matcher(code);
    while (matcher.find()) {
      found++;
    }
    return found;
  }
}
