import java.io.PrintWriter;
import java.io.StringWriter;
import java.lang.reflect.Field;
import java.lang.reflect.Method;
import java.lang.reflect.Modifier;
import java.nio.file.Files;
import java.nio.file.Path;
import java.util.ArrayList;
import java.util.Arrays;
import java.util.HashMap;
import java.util.HashSet;
import java.util.List;
import java.util.Map;
import java.util.Set;
import java.util.TreeMap;
import java.util.TreeSet;
import java.util.regex.Matcher;
import java.util.regex.Pattern;
import java.util.spi.ToolProvider;
import java.util.stream.Collectors;

/**
 * The rules of LANGUAGE.md as far as a program can tell, from the source, by reflection and from
 * what javap prints of the compiled class, which shows every index, divisor, cast, call and new
 * object, wherever it stands.
 */
public final class LanguageTest {
  private static final Check CHECK = new Check();
  private static final Path SOURCE = Path.of("src/main/java/ShapedRows.java");

  /** A stands for IllegalArgumentException, S for IllegalState.., I for IndexOutOfBounds... */
  private static final String[] FACE = {
    "int addNumber(int, int) A S", "int addCopy(int, int, int) A S", "int drop(int, int) A S",
    "int rename(int, int) A S", "int insert() S", "int insertBy(int) I S",
    "int write(int, int, int, int) I A S", "int remove(int) I", "int goOn(int) A",
    "int hold(int, int) I", "int retire(int) I S", "int append(int) A S", "int clearBuffer()",
    "int firstError()", "int run() A", "int undo() S", "int read(int, int, int) I A",
    "int readAs(int, int, int) I A", "int column(int, int, int) I A", "int shape(int, int) I A",
    "int row(int, int) I A", "int count(int) A", "int lost(int, int) I",
    "int against(int, int, int) I A", "int toGo()", "int find(int, int, int) I A",
    "double freshShare()", "long digest()",
  };

  private static final Set<String> LIBRARY = Set.of(
      "java/lang/Object.\"<init>\"", "java/lang/Math.min", "java/lang/System.arraycopy",
      "java/lang/IllegalArgumentException.\"<init>\"",
      "java/lang/IllegalStateException.\"<init>\"",
      "java/lang/IndexOutOfBoundsException.\"<init>\"");

  /** The methods in which an index stands right behind the test of it. */
  private static final Set<String> INDEXING = Set.of(
      "ShapedRows.at", "ShapedRows.put", "ShapedRows$History.<init>",
      "ShapedRows$History.slotAt", "ShapedRows$History.dropOldest");

  private static final Pattern HEAD = Pattern.compile("^  (?:\\S.*[ .])?([\\w$]+)\\(.*\\).*;$");
  private static final Pattern CODE = Pattern.compile("^ +\\d+: (\\w+)(.*)$");
  private static final Pattern CALLED =
      Pattern.compile("// (?:Interface)?Method (?:([\\w/$]+)\\.)?(\"<init>\"|[\\w$]+):(\\S+)");

  private static final Map<String, Set<String>> CALLS = new TreeMap<>();
  private static final Map<String, List<String>> OPCODES = new TreeMap<>();

  private LanguageTest() {}

  public static void main(String[] args) throws Exception {
    face();
    membersAreHidden();
    classesInside();
    sourceWords();
    methodLengths();
    readCode();
    library();
    indexesDivisorsCasts();
    newObjects();
    throwsAndCatches();
    depth();
    CHECK.end("LanguageTest");
  }

  private static void face() {
    Set<String> got = new TreeSet<>();
    for (Method method : ShapedRows.class.getDeclaredMethods()) {
      if (Modifier.isPublic(method.getModifiers())) {
        got.add(told(method));
      }
    }
    CHECK.isTrue("the face is " + got, got.equals(new TreeSet<>(Arrays.asList(FACE))));
    CHECK.same("constructors", ShapedRows.class.getDeclaredConstructors().length, 1);
    CHECK.isTrue("final", Modifier.isFinal(ShapedRows.class.getModifiers()));
    CHECK.same("public fields", ShapedRows.class.getFields().length, 1);
  }

  private static String told(Method method) {
    String types = Arrays.stream(method.getParameterTypes()).map(Class::getName)
        .collect(Collectors.joining(", ", "(", ")"));
    String exceptions = Arrays.stream(method.getExceptionTypes()).map(Class::getSimpleName)
        .map(name -> " " + name.replace("Illegal", "").charAt(0)).collect(Collectors.joining());
    return method.getReturnType() + " " + method.getName() + types + exceptions;
  }

  private static void membersAreHidden() {
    Set<String> faces = new HashSet<>();
    for (Method method : ShapedRows.class.getMethods()) {
      faces.add(method.getName());
    }
    for (Method method : ShapedRows.class.getDeclaredMethods()) {
      boolean open = Modifier.isPublic(method.getModifiers());
      boolean hidden = Modifier.isPrivate(method.getModifiers());
      CHECK.isTrue("rule 1: " + method, open || hidden);
    }
    for (Field field : ShapedRows.class.getDeclaredFields()) {
      boolean constant = field.getName().equals("NONE");
      CHECK.isTrue("rule 1: " + field, constant || Modifier.isPrivate(field.getModifiers()));
    }
    for (Class<?> type : classes()) {
      for (Method method : type.getDeclaredMethods()) {
        boolean hidden = Modifier.isPrivate(method.getModifiers());
        CHECK.isTrue("rule 1: " + method, !hidden || !faces.contains(method.getName()));
        CHECK.isTrue("rule 11: " + method, method.getParameterCount() <= 7);
      }
    }
  }

  private static void classesInside() {
    CHECK.isTrue("rule 11: classes", classes().size() <= 12);
    for (Class<?> type : classes()) {
      if (type != ShapedRows.class) {
        CHECK.isTrue("rule 1: " + type, Modifier.isStatic(type.getModifiers()));
        CHECK.isTrue("rule 1: " + type, !Modifier.isPublic(type.getModifiers()));
      }
      int fields = 0;
      for (Field field : type.getDeclaredFields()) {
        boolean fixed = Modifier.isStatic(field.getModifiers());
        fields += fixed ? 0 : 1;
        CHECK.isTrue("rule 5: " + field, !fixed || field.getType().isPrimitive());
        CHECK.isTrue("rule 5: " + field, !fixed || Modifier.isFinal(field.getModifiers()));
      }
      CHECK.isTrue("rule 11: fields of " + type, fields <= 20);
    }
  }

  private static List<Class<?>> classes() {
    List<Class<?>> types = new ArrayList<>(List.of(ShapedRows.class));
    types.addAll(Arrays.asList(ShapedRows.class.getDeclaredClasses()));
    return types;
  }

  private static void sourceWords() throws Exception {
    String[] words = {
      "import", "package", "try", "catch", "finally", "synchronized", "assert", "instanceof",
      "->", "::", "native", "transient", "volatile", "goto", "var", "record", "throw e",
    };
    String code = code();
    for (String word : words) {
      String edge = Character.isLetter(word.charAt(0)) ? "\\b" : "";
      CHECK.isTrue("no " + word, !Pattern.compile(edge + Pattern.quote(word)).matcher(code).find());
    }
    CHECK.isTrue("rule 4: signs",
        Files.readString(SOURCE).chars().allMatch(sign -> sign == 10 || sign >= 32 && sign < 127));
  }

  /** The source without its comments and texts. */
  private static String code() throws Exception {
    return Files.readString(SOURCE)
        .replaceAll("(?s)/\\*.*?\\*/", "").replaceAll("//.*", "").replaceAll("\"[^\"]*\"", "T");
  }

  private static void methodLengths() throws Exception {
    int start = -1;
    List<String> lines = Files.readAllLines(SOURCE);
    for (int i = 0; i < lines.size(); i++) {
      CHECK.isTrue("line length at " + (i + 1), lines.get(i).length() <= 100);
      if (lines.get(i).matches(" {2}( {2})?[a-zA-Z].*\\) \\{")) {
        start = i;
      }
      if (start >= 0 && lines.get(i).matches(" {2}( {2})?}")) {
        CHECK.isTrue("rule 11: method at line " + (start + 1), i - start < 60);
        start = -1;
      }
    }
  }

  private static void readCode() {
    String path = System.getProperty("java.class.path");
    for (Class<?> type : classes()) {
      StringWriter out = new StringWriter();
      PrintWriter print = new PrintWriter(out);
      ToolProvider.findFirst("javap").orElseThrow()
          .run(print, print, "-c", "-p", "-cp", path, type.getName());
      readClass(type.getName(), out.toString().split("\n"));
    }
    CHECK.isTrue("javap printed the code", OPCODES.size() > 100);
  }

  private static void readClass(String type, String[] lines) {
    String method = "none";
    for (String line : lines) {
      Matcher head = HEAD.matcher(line);
      Matcher code = CODE.matcher(line);
      if (head.matches()) {
        String name = head.group(1);
        boolean making = line.contains(type + "(");
        method = type + "." + (making ? "<init>" : name);
        CHECK.isTrue("one method of this name: " + method, !OPCODES.containsKey(method));
        OPCODES.put(method, new ArrayList<>());
        CALLS.put(method, new TreeSet<>());
      } else if (line.contains("static {}")) {
        CHECK.tell("rule 5: static initialiser in " + type);
      } else if (code.matches()) {
        OPCODES.get(method).add(code.group(1) + code.group(2));
        noteCall(type, method, code.group(2));
      } else if (line.contains("Exception table")) {
        CHECK.tell("rule 6: a catch in " + method);
      }
    }
  }

  private static void noteCall(String type, String method, String rest) {
    Matcher called = CALLED.matcher(rest);
    if (called.find()) {
      String owner = called.group(1) == null ? type : called.group(1);
      String name = called.group(2).equals("\"<init>\"") ? "<init>" : called.group(2);
      CALLS.get(method).add(owner + "." + name);
    }
  }

  private static void library() {
    for (Map.Entry<String, Set<String>> entry : CALLS.entrySet()) {
      for (String call : entry.getValue()) {
        boolean own = OPCODES.containsKey(call);
        CHECK.isTrue("rule 4: " + entry.getKey() + " calls " + call,
            own || LIBRARY.contains(call.replace("<init>", "\"<init>\"")));
      }
    }
  }

  private static void indexesDivisorsCasts() {
    for (Map.Entry<String, List<String>> entry : OPCODES.entrySet()) {
      for (String line : entry.getValue()) {
        String code = line.split(" ")[0];
        boolean index = code.matches("[ilfdabcs]a(load|store)");
        CHECK.isTrue("rule 7: index in " + entry.getKey(),
            !index || INDEXING.contains(entry.getKey()));
        CHECK.isTrue("rule 7: divisor in " + entry.getKey(), !code.matches("[il](div|rem)"));
        CHECK.isTrue("rule 7: divisor in " + entry.getKey(),
            !code.matches("[df](div|rem)") || entry.getKey().equals("ShapedRows.freshShare"));
        CHECK.isTrue("rule 7: cast in " + entry.getKey(), !code.equals("checkcast"));
        CHECK.isTrue("rule 2: " + code + " in " + entry.getKey(), !code.equals("invokedynamic"));
      }
    }
  }

  /** What lives in the room: after the constructor nothing is made but exceptions. */
  private static void newObjects() {
    for (Map.Entry<String, List<String>> entry : OPCODES.entrySet()) {
      for (String line : entry.getValue()) {
        boolean made = line.matches("(new|newarray|anewarray|multianewarray)\\b.*");
        boolean exception = line.matches("new .*// class java/lang/I\\w+Exception");
        CHECK.isTrue("rule 12: " + line + " in " + entry.getKey(),
            !made || exception || entry.getKey().endsWith(".<init>"));
      }
    }
  }

  private static void throwsAndCatches() {
    Set<String> faces = new HashSet<>();
    for (String method : FACE) {
      faces.add("ShapedRows." + method.replaceAll("^\\w+ (\\w+)\\(.*", "$1"));
    }
    for (Map.Entry<String, List<String>> entry : OPCODES.entrySet()) {
      boolean throwing = entry.getValue().stream().anyMatch(line -> line.startsWith("athrow"));
      CHECK.isTrue("throws only in the face: " + entry.getKey(),
          !throwing || faces.contains(entry.getKey()));
    }
  }

  private static void depth() {
    Map<String, Integer> depths = new HashMap<>();
    for (String method : OPCODES.keySet()) {
      int deep = depthOf(method, depths, new ArrayList<>());
      CHECK.isTrue("rule 11: " + method + " goes " + deep + " deep", deep <= 8);
    }
  }

  private static int depthOf(String method, Map<String, Integer> depths, List<String> open) {
    if (!OPCODES.containsKey(method)) {
      return 0;
    }
    if (open.contains(method)) {
      CHECK.tell("rule 8: recursion " + open);
      return 99;
    }
    if (!depths.containsKey(method)) {
      open.add(method);
      int deepest = 0;
      for (String call : CALLS.get(method)) {
        deepest = Math.max(deepest, depthOf(call, depths, open));
      }
      open.remove(method);
      depths.put(method, deepest + 1);
    }
    return depths.get(method);
  }
}
