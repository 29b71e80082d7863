import java.io.IOException;
import java.lang.reflect.Method;
import java.lang.reflect.Modifier;
import java.net.URL;
import java.net.URLClassLoader;
import java.nio.charset.StandardCharsets;
import java.nio.file.Files;
import java.nio.file.Path;
import java.nio.file.Paths;
import java.util.List;
import java.util.Set;
import java.util.TreeSet;
import java.util.function.BiConsumer;
import java.util.regex.Matcher;
import java.util.regex.Pattern;
import javax.tools.ToolProvider;

/**
 * The examples of README.md: they compile, every call in them tells its answer, and that is what the
 * class answers; no method of the face is without an example.
 */
public final class ReadmeTest {
  private static final Pattern CALL = Pattern.compile("x\\.(\\w+)\\(.*\\);.*");
  private static final Pattern ANSWERED = Pattern.compile("(x\\.\\w+\\(.*\\)); +// (-?\\d+)(: .*)?");

  private final StringBuilder helpers = new StringBuilder();
  private final StringBuilder examples = new StringBuilder();
  private final Set<String> shown = new TreeSet<>();
  private boolean inside;
  private boolean helping;

  public static void main(String[] args) throws IOException, ReflectiveOperationException {
    ReadmeTest readme = new ReadmeTest();
    readme.take(Files.readAllLines(Paths.get(System.getProperty("project.root", "."), "README.md")));
    readme.everyMethodIsShown();
    readme.run();
    Due.close();
  }

  private void take(List<String> lines) {
    for (int i = 0; i < lines.size(); i++) {
      String line = lines.get(i);
      if (line.equals("```java")) {
        inside = true;
        helping = lines.get(i + 1).startsWith("static ");
        examples.append(helping ? "" : "{\n");
      } else if (inside && line.equals("```")) {
        inside = false;
        examples.append(helping ? "" : "}\n");
      } else if (inside) {
        takeCode(line, i + 1);
      }
    }
  }

  private void takeCode(String line, int number) {
    if (helping) {
      helpers.append(line).append('\n');
      return;
    }
    Matcher call = CALL.matcher(line);
    if (!call.matches()) {
      examples.append(line).append('\n');
      return;
    }
    shown.add(call.group(1));
    Matcher answered = ANSWERED.matcher(line);
    Due.so("README.md, line " + number + ", tells the answer", answered.matches());
    if (answered.matches()) {
      examples.append("due.accept(\"README.md, line ").append(number).append("\", new long[] {")
          .append(answered.group(1)).append(", ").append(answered.group(2)).append("L});\n");
    }
  }

  private void everyMethodIsShown() {
    for (Method m : LitCoast.class.getDeclaredMethods()) {
      if (Modifier.isPublic(m.getModifiers())) {
        Due.so("README.md shows " + m.getName(), shown.contains(m.getName()));
      }
    }
  }

  private void run() throws IOException, ReflectiveOperationException {
    Path folder = Files.createTempDirectory("readme");
    Path source = folder.resolve("ReadmeExamples.java");
    Path made = folder.resolve("ReadmeExamples.class");
    String text = "public final class ReadmeExamples {\n" + helpers
        + "public static void run(java.util.function.BiConsumer<String, long[]> due) {\n" + examples
        + "}\n}\n";
    Files.write(source, text.getBytes(StandardCharsets.UTF_8));
    int failed = ToolProvider.getSystemJavaCompiler().run(null, null, null, "-cp",
        System.getProperty("java.class.path"), "-d", folder.toString(), source.toString());
    Due.is("compiling the examples of README.md", failed, 0);
    if (failed == 0) {
      compare(folder);
    }
    Files.deleteIfExists(made);
    Files.delete(source);
    Files.delete(folder);
  }

  private static void compare(Path folder) throws IOException, ReflectiveOperationException {
    BiConsumer<String, long[]> due = (where, both) -> Due.is(where, both[0], both[1]);
    try (URLClassLoader loader = new URLClassLoader(new URL[] {folder.toUri().toURL()})) {
      loader.loadClass("ReadmeExamples").getMethod("run", BiConsumer.class).invoke(null, due);
    }
  }
}
