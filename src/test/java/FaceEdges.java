import java.io.IOException;
import java.io.UncheckedIOException;
import java.lang.reflect.Member;
import java.lang.reflect.Modifier;
import java.nio.file.Files;
import java.nio.file.Path;
import java.util.Arrays;
import java.util.List;
import java.util.stream.Stream;

/** What stands ahead of the terms: 'What it is', and 'The public face', line by line. */
final class FaceEdges {
  private static final String HEADING = "The public face";
  private static final Path SOURCE = Path.of("src/main/java/ShapedRows.java");

  private final Edges edges;
  private final String source;

  FaceEdges(Edges edges) {
    this.edges = edges;
    this.source = onOneLine();
  }

  void all() {
    calls();
    line("public final class ShapedRows {", "public final class ShapedRows {");
    line("public static final int NONE = -1;", "public static final int NONE = -1;");
    line("public ShapedRows();", "public ShapedRows() {");
    List<String> methods = methods();
    for (String method : methods) {
      line(method, method.replace(";", " {"));
    }
    edges.same(methods.size(), open(ShapedRows.class.getDeclaredMethods()));
    edges.same(1, open(ShapedRows.class.getDeclaredConstructors()));
    edges.same(1, open(ShapedRows.class.getDeclaredFields()));
    edges.same(0, open(ShapedRows.class.getDeclaredClasses()));
  }

  private void calls() {
    edges.about("What it is", "An object is used for at most 512 calls after it has been made;"
        + " what later calls answer is free.");
    ShapedRows x = new ShapedRows();
    x.insert();
    for (int call = 2; call < 511; call++) {
      x.goOn(1);
    }
    edges.same(1, x.addNumber(Edges.A, 11));
    edges.same(6, x.count(9));
  }

  /** A line of the face stands just once in the source too. */
  private void line(String line, String there) {
    edges.about(HEADING, line);
    int start = source.indexOf(there);
    edges.isTrue(start >= 0 && source.indexOf(there, start + 1) < 0);
  }

  private List<String> methods() {
    return edges.lines(HEADING).map(String::trim)
        .filter(line -> line.matches("public (int|long|double) \\w+\\(.*"))
        .toList();
  }

  private static long open(Member[] members) {
    return Arrays.stream(members).filter(it -> Modifier.isPublic(it.getModifiers())).count();
  }

  private static long open(Class<?>[] types) {
    return Stream.of(types).filter(it -> Modifier.isPublic(it.getModifiers())).count();
  }

  private static String onOneLine() {
    try {
      return Files.readString(SOURCE).replaceAll("\\s+", " ");
    } catch (IOException e) {
      throw new UncheckedIOException(e);
    }
  }
}
