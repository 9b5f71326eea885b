import java.io.IOException;
import java.net.URL;
import java.net.URLClassLoader;
import java.nio.file.Files;
import java.nio.file.Path;
import java.util.ArrayList;
import java.util.List;
import java.util.function.Supplier;
import java.util.regex.Matcher;
import java.util.regex.Pattern;
import javax.tools.JavaCompiler;
import javax.tools.ToolProvider;

/** The example in README.md compiles as it stands, and its calls answer what it says beside them. */
final class ReadmeTest {
  private static final Pattern EXAMPLE = Pattern.compile("(?s)```java\n(.*?)```");
  private static final Pattern ANSWERED =
      Pattern.compile("(market\\..*?);\\s*// answers ([^\\s:]+)(:.*)?");
  private static final Pattern THROWN = Pattern.compile("(market\\..*?);\\s*// throws (\\w+)");

  private final List<String> calls = new ArrayList<>();
  private final List<String> due = new ArrayList<>();

  public static void main(String[] args) throws IOException, ReflectiveOperationException {
    new ReadmeTest().run();
    Check.end();
  }

  private void run() throws IOException, ReflectiveOperationException {
    Matcher example = EXAMPLE.matcher(Files.readString(Path.of("README.md")));
    Check.due("README has an example", true, example.find());
    Path folder = Files.createTempDirectory("readme");
    Path source = folder.resolve("ReadmeExample.java");
    Files.writeString(source, program(example.group(1)));
    JavaCompiler compiler = ToolProvider.getSystemJavaCompiler();
    String classPath = System.getProperty("java.class.path");
    Check.due("README's example compiles", 0, compiler.run(null, null, null, "-proc:none", "-cp",
        classPath, "-d", folder.toString(), source.toString()));
    List<?> answers = answersOf(folder);
    Check.due("README tells of answers", true, due.size() > 10);
    Check.due("each was asked", due.size(), answers.size());
    for (int i = 0; i < answers.size(); i++) {
      Check.due("README: " + calls.get(i), due.get(i), answers.get(i));
    }
  }

  private static List<?> answersOf(Path folder) throws IOException, ReflectiveOperationException {
    try (URLClassLoader loader = new URLClassLoader(new URL[] {folder.toUri().toURL()})) {
      Object example = loader.loadClass("ReadmeExample").getConstructor().newInstance();
      return (List<?>) ((Supplier<?>) example).get();
    }
  }

  /** The example as a class that hands out what its calls answered, as texts. */
  private String program(String example) {
    StringBuilder text = new StringBuilder("import java.util.*;\n"
        + "public class ReadmeExample implements java.util.function.Supplier<List<String>> {\n"
        + "public List<String> get() {\nList<String> answers = new ArrayList<>();\n");
    for (String line : example.split("\n")) {
      Matcher answered = ANSWERED.matcher(line);
      Matcher thrown = THROWN.matcher(line);
      if (answered.matches()) {
        expect(answered);
        text.append("answers.add(String.valueOf(").append(answered.group(1)).append("));\n");
      } else if (thrown.matches()) {
        expect(thrown);
        text.append("try { ").append(thrown.group(1)).append("; answers.add(\"\"); }")
            .append(" catch (RuntimeException e) {")
            .append(" answers.add(e.getClass().getSimpleName()); }\n");
      } else {
        text.append(line).append('\n');
      }
    }
    return text.append("return answers;\n}\n}\n").toString();
  }

  private void expect(Matcher line) {
    calls.add(line.group(1));
    due.add(line.group(2));
  }
}
