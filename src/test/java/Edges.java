import java.util.ArrayList;
import java.util.List;
import java.util.stream.Stream;

/**
 * What the tests of the document's sentences share. Each test names its sentence first; a fault is
 * printed with it, and with the line of the test.
 */
final class Edges {
  /** Calls that bring a new object into a state, so that the state can be made once more. */
  interface Calls {
    void on(ShapedRows x);
  }

  /** A call whose answer, or exception, is asked. */
  interface Call {
    long on(ShapedRows x);
  }

  static final Class<? extends RuntimeException> INDEX = IndexOutOfBoundsException.class;
  static final Class<? extends RuntimeException> ARGUMENT = IllegalArgumentException.class;
  static final Class<? extends RuntimeException> STATE = IllegalStateException.class;

  static final int LEAST = Integer.MIN_VALUE;
  static final int MOST = Integer.MAX_VALUE;
  static final int NONE = ShapedRows.NONE;
  static final int A = 0;
  static final int B = 1;
  static final int C = 2;
  static final int D = 3;
  static final int H = 7;

  static final Calls NEW = x -> { };

  private final Document document = new Document();
  private final Check check = new Check();
  private String about = "";

  /** Names the sentence that the checks behind this call are about. */
  void about(String heading, String sentence) {
    about = heading + ", '" + sentence + "'";
    check.isTrue(place() + " stands once in the document", document.claims(heading, sentence));
  }

  Stream<String> lines(String heading) {
    return document.linesOf(heading);
  }

  static ShapedRows made(Calls before) {
    ShapedRows x = new ShapedRows();
    before.on(x);
    return x;
  }

  void same(long due, long got) {
    check.same(place(), got, due);
  }

  void isTrue(boolean holds) {
    check.isTrue(place(), holds);
  }

  /** Asks what a call on a fresh state answers; returns the object for further looks. */
  ShapedRows answers(long due, Calls before, Call call) {
    ShapedRows x = made(before);
    String got = Check.outcome(() -> call.on(x));
    check.isTrue(place() + ": " + got + ", due is " + due, got.equals("answers " + due));
    return x;
  }

  /** The call throws just this exception, and changes nothing that any later call could tell. */
  void refused(Class<? extends RuntimeException> due, Calls before, Call call) {
    String got = Check.outcome(() -> call.on(made(before)));
    check.isTrue(place() + ": " + got, got.equals("throws " + due.getName()));
    changesNothing(before, call);
  }

  void changesNothing(Calls before, Call call) {
    Calls with = x -> {
      before.on(x);
      Check.outcome(() -> call.on(x));
    };
    check.isTrue(place() + ": it has changed something", sameState(before, with));
  }

  /** Undoable: it saves one state, and undo brings back the one from before it. */
  void undoable(Calls before, Call call) {
    ShapedRows x = made(before);
    int saved = x.count(9);
    call.on(x);
    check.same(place() + ": saved states", x.count(9), Math.min(saved + 1, 6));
    check.same(place() + ": left by undo", x.undo(), Math.min(saved, 5));
    Calls with = y -> {
      before.on(y);
      call.on(y);
      y.undo();
    };
    check.isTrue(place() + ": undo brings back another state",
        saved < 6 ? sameState(before, with) : forwards(made(before)).equals(forwards(made(with))));
  }

  /** It saves nothing, whether it answers or throws. */
  void notUndoable(Calls before, Call call) {
    ShapedRows x = made(before);
    int saved = x.count(9);
    Check.outcome(() -> call.on(x));
    check.same(place() + ": saved states", x.count(9), saved);
  }

  static boolean sameState(Calls some, Calls others) {
    return backwards(made(some)).equals(backwards(made(others)))
        && forwards(made(some)).equals(forwards(made(others)));
  }

  void end(String name, String from, String to) {
    for (String words : document.unclaimed(from, to)) {
      check.tell("no test is about " + words);
    }
    check.end(name);
  }

  /** What an object tells on the way back through its saved states. */
  private static List<String> backwards(ShapedRows x) {
    List<String> told = new ArrayList<>();
    told.add(x.digest() + " " + x.firstError());
    for (int step = 0; step < 8; step++) {
      told.add(Check.outcome(x::undo) + " " + x.digest());
    }
    return told;
  }

  /**
   * What an object tells after further calls: a row of each shape shows the numbers and columns by
   * which shapes came, which no digest without rows tells. How many states are saved is left out,
   * since undo leaves one less where six were saved.
   */
  static List<String> forwards(ShapedRows x) {
    List<String> told = new ArrayList<>();
    told.add("run " + Check.outcome(x::run));
    told.add("clear " + Check.outcome(x::clearBuffer));
    for (int shape = -1; shape < 12; shape++) {
      int by = shape;
      told.add("by " + shape + " " + Check.outcome(() -> x.insertBy(by)));
      told.add("look " + Check.outcome(() -> x.shape(by, 5)));
    }
    told.add("go " + Check.outcome(() -> x.goOn(2)));
    told.add("reads " + valuesOf(x));
    told.add("add " + Check.outcome(() -> x.addNumber(6, 5)));
    for (int count = 0; count < 9; count++) {
      told.add("count " + x.count(count));
    }
    return told;
  }

  private static String valuesOf(ShapedRows x) {
    StringBuilder values = new StringBuilder();
    for (int row = 0; row < x.count(2); row++) {
      for (int shape = x.count(1); shape < x.count(0); shape++) {
        for (int letter = A; letter <= H; letter++) {
          values.append(x.read(row, shape, letter)).append(' ');
        }
      }
    }
    return values.toString();
  }

  /** The sentence, and the line of the test that asks. */
  private String place() {
    String line = StackWalker.getInstance().walk(frames -> frames
        .filter(frame -> !frame.getClassName().startsWith("Edges"))
        .map(frame -> frame.getClassName() + ":" + frame.getLineNumber())
        .findFirst().orElse("?"));
    return line + ", " + about;
  }
}
