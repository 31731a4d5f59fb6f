import java.io.IOException;
import java.io.StringWriter;
import java.lang.reflect.Method;
import java.lang.reflect.Modifier;
import java.net.URL;
import java.net.URLClassLoader;
import java.nio.file.Files;
import java.nio.file.Path;
import java.util.ArrayList;
import java.util.List;
import java.util.regex.Matcher;
import java.util.regex.Pattern;
import java.util.stream.Stream;
import javax.tools.JavaCompiler;
import javax.tools.StandardJavaFileManager;
import javax.tools.ToolProvider;

/** The examples of README.md compile, each for itself, and answer what stands behind their calls. */
public final class ReadmeTest {
  private static final Pattern ROW = Pattern.compile("(?:int (\\w+) = )?(.+?);(?:\\s*// (.+))?");
  private static final Pattern TOLD = Pattern.compile("(throws )?(\\S*?)(?:[,:;]| .*|$).*");

  private ReadmeTest() {
  }

  public static void main(String[] args) throws Exception {
    String readme = Files.readString(Path.of("README.md"));
    List<String> examples = examplesOf(readme);
    Check.same("there are examples", examples.size() >= 7, true);
    rowsAreRead();
    everyCallIsShown(examples);
    answersAreHeldTo(examples);
    whatIsNamedIsThere(readme);
    Check.end("ReadmeTest");
  }

  private static List<String> examplesOf(String readme) {
    List<String> examples = new ArrayList<>();
    Matcher block = Pattern.compile("(?ms)^```java\\n(.*?)^```$").matcher(readme);
    while (block.find()) {
      examples.add(block.group(1));
    }
    return examples;
  }

  /** What the examples are held to depends on how their rows are read. */
  private static void rowsAreRead() {
    Check.same("a number", toldOf("5 pixels"), "5");
    Check.same("one below 0", toldOf("-5: below"), "-5");
    Check.same("a share", toldOf("0.25 of all"), "0.25");
    Check.same("a comma", toldOf("6, with its begin"), "6");
    Check.same("a fault", toldOf("-"), "-");
    Check.same("an exception", toldOf("throws IllegalStateException"), "throws.IllegalStateException");
  }

  private static String toldOf(String comment) {
    Matcher told = TOLD.matcher(comment);
    Check.same("it can be read: " + comment, told.matches(), true);
    return (told.group(1) == null ? "" : "throws.") + told.group(2);
  }

  private static void everyCallIsShown(List<String> examples) {
    String all = String.join("\n", examples);
    for (Method method : HintForge.class.getDeclaredMethods()) {
      if (Modifier.isPublic(method.getModifiers())) {
        Check.same(method.getName() + " is shown", all.contains("." + method.getName() + "("), true);
      }
    }
  }

  private static void answersAreHeldTo(List<String> examples) throws Exception {
    List<List<String>> due = new ArrayList<>();
    StringBuilder text = new StringBuilder("public final class Examples {\n");
    for (int i = 0; i < examples.size(); i++) {
      due.add(new ArrayList<>());
      text.append(methodOf("example" + i, examples.get(i), due.get(i)));
    }
    text.append("}\n");
    Class<?> compiled = compiled(text.toString());
    for (int i = 0; compiled != null && i < examples.size(); i++) {
      List<String> got = new ArrayList<>();
      compiled.getMethod("example" + i, List.class).invoke(null, got);
      Check.same("rows of example " + i, got.size(), due.get(i).size());
      for (int j = 0; j < Math.min(got.size(), due.get(i).size()); j++) {
        Check.same("example " + i, got.get(j), due.get(i).get(j));
      }
    }
  }

  /** The example as it stands, with what each row answers that tells of an answer. */
  private static String methodOf(String name, String example, List<String> due) {
    StringBuilder text = new StringBuilder();
    text.append("  public static void ").append(name).append("(java.util.List<String> got) {\n");
    for (String line : example.split("\n")) {
      Matcher row = ROW.matcher(line);
      Check.same("a row of an example: " + line, row.matches(), true);
      if (!row.matches() || row.group(3) == null) {
        text.append(line).append('\n');
        continue;
      }
      String call = row.group(2);
      due.add(call + " -> " + toldOf(row.group(3)));
      String before = "got.add(\"" + call.replace("\"", "\\\"") + " -> ";
      if (row.group(1) != null) {
        text.append(line).append('\n').append(before).append("\" + ").append(row.group(1)).append(");\n");
      } else {
        text.append("try { ").append(before).append("\" + ").append(call).append("); }\n");
        text.append("catch (RuntimeException e) { ").append(before)
            .append("throws.\" + e.getClass().getSimpleName()); }\n");
      }
    }
    return text.append("  }\n").toString();
  }

  private static Class<?> compiled(String text) throws IOException, ClassNotFoundException {
    Path folder = Files.createTempDirectory("readme");
    try {
      Path source = folder.resolve("Examples.java");
      Files.writeString(source, text);
      JavaCompiler compiler = ToolProvider.getSystemJavaCompiler();
      StringWriter said = new StringWriter();
      boolean isCompiled;
      try (StandardJavaFileManager files = compiler.getStandardFileManager(null, null, null)) {
        List<String> options =
            List.of("-cp", System.getProperty("java.class.path"), "-d", folder.toString());
        isCompiled = compiler.getTask(said, files, null, options, null,
            files.getJavaFileObjects(source)).call();
      }
      Check.same("the examples compile: " + said, isCompiled, true);
      return isCompiled ? loaded(folder) : null;
    } finally {
      remove(folder);
    }
  }

  private static Class<?> loaded(Path folder) throws IOException, ClassNotFoundException {
    URL[] places = {folder.toUri().toURL()};
    try (URLClassLoader loader = new URLClassLoader(places)) {
      return Class.forName("Examples", true, loader);
    }
  }

  private static void remove(Path folder) throws IOException {
    List<Path> files = new ArrayList<>();
    try (Stream<Path> inside = Files.list(folder)) {
      inside.forEach(files::add);
    }
    for (Path file : files) {
      Files.delete(file);
    }
    Files.delete(folder);
  }

  private static void whatIsNamedIsThere(String readme) {
    Matcher test = Pattern.compile("\\b([A-Z]\\w*Test|Naive)\\b").matcher(readme);
    int named = 0;
    while (test.find()) {
      String name = test.group(1);
      Check.same(name + " is there", Files.exists(Path.of("src/test/java/" + name + ".java")), true);
      named++;
    }
    Check.same("tests are named", named >= 9, true);
    Check.same("the script can be run", Files.isExecutable(Path.of(".ci/run")), true);
  }
}
