import java.io.IOException;
import java.io.UncheckedIOException;
import java.nio.file.Files;
import java.nio.file.Path;
import java.util.ArrayList;
import java.util.LinkedHashMap;
import java.util.List;
import java.util.Map;
import java.util.stream.Stream;

/**
 * The document by its headings. A test claims the words of a sentence that it tests; what no test
 * has claimed in the end is told, so that no sentence is left without a test of its own.
 */
final class Document {
  private static final Path PLACE = Path.of("../shared/DOC.md");

  /** Signatures and titles, which promise nothing beyond what stands behind them. */
  private static final String[] NO_PROMISE = {
    "(?m)^Rows of several shapes: .*$",
    "(?m)^```java$",
    "(?m)^`[^`]*`: ",
    "(?m)^Shapes, columns$",
    "(?m)^Readers, retiring$",
    "(?m)^Ahead of the calls .* the interface says: ---- (rows\\.|readers\\.|texts\\.)?",
  };

  private final Map<String, String> texts = new LinkedHashMap<>();
  private final Map<String, boolean[]> claimed = new LinkedHashMap<>();

  Document() {
    String heading = "";
    for (String line : lines()) {
      if (line.startsWith("#")) {
        heading = line.replaceAll("^#+ ", "").replaceAll(":.*", "");
        texts.put(heading, "");
      } else {
        texts.merge(heading, line + "\n", String::concat);
      }
    }
    texts.replaceAll((key, text) -> withoutTitles(text));
    texts.forEach((key, text) -> claimed.put(key, new boolean[text.length()]));
  }

  /** Claims a sentence, or a part of one, that stands once under a heading; tells if it does. */
  boolean claims(String heading, String words) {
    String text = texts.getOrDefault(heading, "");
    int start = text.indexOf(words);
    if (start < 0 || text.indexOf(words, start + 1) >= 0) {
      return false;
    }
    for (int i = start; i < start + words.length(); i++) {
      claimed.get(heading)[i] = true;
    }
    return true;
  }

  /** What stands under a heading, line by line. */
  Stream<String> linesOf(String heading) {
    return texts.getOrDefault(heading, "").lines();
  }

  /** The words that no test has claimed, under the headings from one to ahead of another. */
  List<String> unclaimed(String from, String to) {
    List<String> left = new ArrayList<>();
    boolean inside = false;
    for (String heading : texts.keySet()) {
      inside = (inside || heading.equals(from)) && !heading.equals(to);
      if (inside) {
        addUnclaimed(heading, left);
      }
    }
    return left;
  }

  private void addUnclaimed(String heading, List<String> left) {
    StringBuilder rest = new StringBuilder();
    String text = texts.get(heading);
    for (int i = 0; i < text.length(); i++) {
      rest.append(claimed.get(heading)[i] ? '\n' : text.charAt(i));
    }
    for (String words : rest.toString().split("\n+")) {
      if (words.matches(".*[A-Za-z0-9].*")) {
        left.add(heading + ": " + words.trim());
      }
    }
  }

  private static String withoutTitles(String text) {
    String rest = text;
    for (String title : NO_PROMISE) {
      rest = rest.replaceAll(title, "");
    }
    return rest;
  }

  private static List<String> lines() {
    try {
      return Files.readAllLines(PLACE);
    } catch (IOException e) {
      throw new UncheckedIOException(e);
    }
  }
}
