import java.io.IOException;
import java.net.URL;
import java.net.URLClassLoader;
import java.nio.file.Files;
import java.nio.file.Path;
import java.util.ArrayList;
import java.util.Comparator;
import java.util.List;
import java.util.regex.Matcher;
import java.util.regex.Pattern;
import java.util.stream.Stream;
import javax.tools.ToolProvider;

/** README.md does what it says: its example is compiled as it stands, and the way to run the tests runs all of them. */
public final class ReadmeTest {
  private static final Path README = Path.of("README.md");
  private static final Path CI = Path.of(".ci", "run");
  private static final Path TESTS = Path.of("src", "test", "java");
  private static final Pattern BLOCK = Pattern.compile("(?ms)^```java\n(.*?)^```$");
  private static final Pattern ANSWER = Pattern.compile("^(x\\.\\w+\\(.*\\)); +// (-?\\d+|true|false)(?::.*)?$");

  private ReadmeTest() {
  }

  public static void main(String[] args) throws IOException, ReflectiveOperationException {
    String readme = Files.readString(README);
    example(readme);
    everyTestRuns(readme);
    Check.finish();
  }

  // ---- the example ----

  private static void example(String readme) throws IOException, ReflectiveOperationException {
    Check.part("the example of README.md");
    StringBuilder members = new StringBuilder();
    StringBuilder body = new StringBuilder();
    List<String> want = new ArrayList<>();
    Matcher blocks = BLOCK.matcher(readme);
    while (blocks.find()) {
      StringBuilder to = blocks.group(1).startsWith("static ") ? members : body;
      blocks.group(1).lines().forEach(line -> to.append(asked(line, want)).append('\n'));
    }
    List<String> got = run("public final class Example {\n" + members + "public static void run(java.util.List<String> got) {\n" + body + "}\n}\n");
    Check.due("answers were asked", want.size() >= 20, true);
    Check.due("answers", got.size(), want.size());
    for (int i = 0; i < Math.min(got.size(), want.size()); i++) {
      Check.due(want.get(i) + " is told, " + got.get(i) + " is so", got.get(i).equals(want.get(i)), true);
    }
  }

  /** A line that tells its answer is asked for it; all other lines stay as they are. */
  private static String asked(String line, List<String> want) {
    Matcher m = ANSWER.matcher(line);
    if (m.matches()) {
      want.add(m.group(1) + " = " + m.group(2));
      return "got.add(\"" + m.group(1) + " = \" + " + m.group(1) + ");";
    }
    Check.due("its answer can be read: " + line, line.startsWith("x.") || line.contains("//"), false);
    return line;
  }

  private static List<String> run(String code) throws IOException, ReflectiveOperationException {
    List<String> got = new ArrayList<>();
    Path place = Files.createTempDirectory("readme");
    try {
      Path file = Files.writeString(place.resolve("Example.java"), code);
      int problems = ToolProvider.getSystemJavaCompiler().run(null, null, null, "-cp", System.getProperty("java.class.path"), "-d", place.toString(), file.toString());
      Check.due("the example compiles", problems, 0);
      if (problems == 0) {
        try (URLClassLoader loader = new URLClassLoader(new URL[] {place.toUri().toURL()})) {
          loader.loadClass("Example").getMethod("run", List.class).invoke(null, got);
        }
      }
    } finally {
      remove(place);
    }
    return got;
  }

  private static void remove(Path place) throws IOException {
    List<Path> all = new ArrayList<>();
    try (Stream<Path> walk = Files.walk(place)) {
      walk.sorted(Comparator.reverseOrder()).forEach(all::add);
    }
    for (Path p : all) {
      Files.delete(p);
    }
  }

  // ---- the tests ----

  /** .ci/run goes through all names that end in Test, so nothing else may have a main. */
  private static void everyTestRuns(String readme) throws IOException {
    Check.part("the tests of README.md");
    Check.due("README.md tells .ci/run", readme.contains("\n    .ci/run\n"), true);
    Check.due(".ci/run can be run", Files.isExecutable(CI), true);
    String script = Files.readString(CI);
    Check.due(".ci/run takes all tests of the project", script.contains("for test in src/test/java/*Test.java; do"), true);
    Check.due(".ci/run takes all shared tests", script.contains("shared=../shared/tests") && script.contains("for test in \"$shared\"/*.java; do"), true);
    List<Path> files = new ArrayList<>();
    try (Stream<Path> walk = Files.walk(Path.of("src"))) {
      walk.filter(Files::isRegularFile).forEach(files::add);
    }
    for (Path file : files) {
      String name = file.getFileName().toString();
      boolean test = file.getParent().equals(TESTS) && name.endsWith("Test.java");
      Check.due(file + " has a main", Files.readString(file).contains("static void main(String[]"), test);
      Check.due("README.md names " + name, !test || readme.contains("`" + name.replace(".java", "") + "`"), true);
    }
    Check.due("there are tests", files.size() > 5, true);
  }
}
