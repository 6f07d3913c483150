import java.io.IOException;
import java.lang.reflect.Method;
import java.lang.reflect.Modifier;
import java.net.URL;
import java.net.URLClassLoader;
import java.nio.file.Files;
import java.nio.file.Path;
import java.util.ArrayList;
import java.util.List;
import java.util.regex.Matcher;
import java.util.regex.Pattern;
import java.util.spi.ToolProvider;
import java.util.stream.Stream;

/**
 * README.md against the class. Its example is compiled as it stands there, with the answers of its
 * calls kept, and each answer is held against the one that the page tells behind the call.
 */
public final class ReadmeTest {
  private static final Check CHECK = new Check();
  private static final Path README = Path.of("README.md");
  private static final Path TESTS = Path.of("src/test/java");
  private static final String MAKES = "ShapedRows rows = new ShapedRows();";
  private static final Pattern CALL = Pattern.compile(
      "(.*?)(rows\\.\\w+\\(.*\\)); +// (throws \\w+|-?\\d+(?:\\.\\d+)?)(?:: \\S.*)?");
  private static final Pattern ORDER_ROW =
      Pattern.compile("\\| `([^`]+)` \\| [^|]+ \\| `(\\w+)` \\|");

  /** What the class answered, in the order of the example's calls; the example puts it here. */
  public static final List<String> ANSWERS = new ArrayList<>();

  private ReadmeTest() {}

  public static void main(String[] args) throws Exception {
    example();
    faceIsNamed();
    testsAreNamed();
    ordersAreOrders();
    CHECK.end("ReadmeTest");
  }

  private static void example() throws Exception {
    List<String> lines = exampleLines();
    List<Matcher> calls = new ArrayList<>();
    StringBuilder code = new StringBuilder();
    for (String line : lines) {
      Matcher call = CALL.matcher(line);
      if (call.matches()) {
        calls.add(call);
        code.append(keepingItsAnswer(call));
      } else if (line.equals(MAKES)) {
        code.append(line).append('\n');
      } else {
        CHECK.isTrue("a call with its answer: " + line, line.isBlank() || line.startsWith("// "));
      }
    }
    CHECK.isTrue("README.md has an example", calls.size() > 20);
    if (carriesOut(code.toString())) {
      holdAnswers(calls);
    }
  }

  private static void holdAnswers(List<Matcher> calls) {
    CHECK.same("answers of the example", ANSWERS.size(), calls.size());
    for (int i = 0; i < Math.min(calls.size(), ANSWERS.size()); i++) {
      String told = calls.get(i).group(3);
      CHECK.isTrue(calls.get(i).group() + " <- the class: " + ANSWERS.get(i),
          told.equals(ANSWERS.get(i)));
    }
  }

  /** The lines of the blocks of Java; there is one block, so that it makes one object. */
  private static List<String> exampleLines() throws IOException {
    List<String> lines = new ArrayList<>();
    boolean inside = false;
    int blocks = 0;
    for (String line : Files.readAllLines(README)) {
      if (line.startsWith("```")) {
        inside = line.equals("```java");
        blocks += inside ? 1 : 0;
      } else if (inside) {
        lines.add(line);
      }
    }
    CHECK.same("blocks of Java in README.md", blocks, 1);
    return lines;
  }

  /** What stands ahead of the call, a loop, stays ahead of it: the last answer counts. */
  private static String keepingItsAnswer(Matcher call) {
    return "told = \"nothing\";\n"
        + "try { " + call.group(1) + "told = String.valueOf(" + call.group(2) + "); }\n"
        + "catch (RuntimeException e) { told = \"throws \" + e.getClass().getSimpleName(); }\n"
        + "ReadmeTest.ANSWERS.add(told);\n";
  }

  private static boolean carriesOut(String code) throws Exception {
    Path folder = Files.createTempDirectory("readme");
    Path file = folder.resolve("ReadmeExample.java");
    try {
      Files.writeString(file, "public final class ReadmeExample {\n"
          + "public static void main(String[] args) {\nString told;\n" + code + "}\n}\n");
      int faults = ToolProvider.findFirst("javac").orElseThrow().run(System.out, System.out,
          "-encoding", "UTF-8", "-implicit:none", "-cp", System.getProperty("java.class.path"),
          "-d", folder.toString(), file.toString());
      CHECK.same("javac of the example", faults, 0);
      if (faults == 0) {
        callMain(folder);
      }
      return faults == 0;
    } finally {
      deleteAll(folder);
    }
  }

  private static void callMain(Path folder) throws Exception {
    URL[] places = {folder.toUri().toURL()};
    try (URLClassLoader loader = new URLClassLoader(places, ReadmeTest.class.getClassLoader())) {
      Method main = loader.loadClass("ReadmeExample").getMethod("main", String[].class);
      main.invoke(null, (Object) new String[0]);
    }
  }

  private static void deleteAll(Path folder) throws IOException {
    try (Stream<Path> files = Files.list(folder)) {
      for (Path file : files.toList()) {
        Files.delete(file);
      }
    }
    Files.delete(folder);
  }

  private static void faceIsNamed() throws IOException {
    String tables = Files.readString(README).replaceAll("(?s)```.*?```", "");
    for (Method method : ShapedRows.class.getDeclaredMethods()) {
      if (Modifier.isPublic(method.getModifiers())) {
        Matcher row = Pattern.compile("(?m)^\\| `" + method.getName() + "\\(([^)]*)\\)` \\|")
            .matcher(tables);
        boolean told = row.find();
        CHECK.isTrue("a row of a table is about " + method.getName(), told);
        CHECK.same("arguments of " + method.getName(), told ? arguments(row.group(1)) : 0,
            method.getParameterCount());
        CHECK.isTrue("no other row is about " + method.getName(), !told || !row.find());
      }
    }
  }

  private static int arguments(String names) {
    return names.isEmpty() ? 0 : names.split(", ").length;
  }

  private static void testsAreNamed() throws IOException {
    String page = Files.readString(README);
    try (Stream<Path> files = Files.list(TESTS)) {
      for (Path file : files.toList()) {
        String name = file.getFileName().toString().replace(".java", "");
        boolean test = name.endsWith("Test") || name.endsWith("Edges");
        CHECK.isTrue("README.md names " + name, !test || page.contains("`" + name + "`"));
      }
    }
    CHECK.isTrue("README.md tells how to run them", page.contains("bash .ci/run  "));
  }

  /** The table's orders, run one after the other, do what their methods do. */
  private static void ordersAreOrders() throws IOException {
    Matcher row = ORDER_ROW.matcher(Files.readString(README));
    ShapedRows byText = new ShapedRows();
    StringBuilder methods = new StringBuilder();
    while (row.find()) {
      CHECK.same("the order " + row.group(1), Check.run(byText, row.group(1)), 1);
      methods.append(row.group(2)).append(' ');
    }
    CHECK.isTrue("the table's methods are " + methods, methods.toString()
        .equals("addNumber addCopy addCopy drop rename insert goOn "));
    ShapedRows byCalls = new ShapedRows();
    byCalls.addNumber(0, 5);
    byCalls.addCopy(1, 0, ShapedRows.NONE);
    byCalls.addCopy(2, 0, 1);
    byCalls.drop(0, 7);
    byCalls.rename(1, 3);
    byCalls.insert();
    byCalls.goOn(12);
    CHECK.same("the digest behind the table's orders", byText.digest(), byCalls.digest());
  }
}
