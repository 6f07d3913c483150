import java.util.regex.Matcher;
import java.util.regex.Pattern;

/** Promises 13 to 17: the buffer, its errors, running it, and undo. */
public final class TextTest {
  private static final Check CHECK = new Check();
  private static final String ORDER =
      "(\\+[a-h]=(0|[1-9][0-9]?)|\\+[a-h]:[a-h](\\+[a-h])?|-[a-h]=(0|[1-9][0-9]?)"
          + "|>[a-h][a-h]|n|\\*([1-9]|1[0-2]))";
  private static final Pattern ORDERS = Pattern.compile(ORDER + "(;" + ORDER + ")*");

  private TextTest() {}

  public static void main(String[] args) {
    append();
    clearBuffer();
    firstError();
    everyCharacterBehindEveryStart();
    ordersOfFullLength();
    run();
    runStops();
    runRefused();
    runIsUndoneAsOne();
    undo();
    undoBringsBackAll();
    sixStates();
    CHECK.end("TextTest");
  }

  private static void append() {
    ShapedRows x = new ShapedRows();
    CHECK.badArgument("promise 13: 32", x, () -> x.append(32));
    CHECK.badArgument("promise 13: 127", x, () -> x.append(127));
    CHECK.badArgument("promise 13: -1", x, () -> x.append(-1));
    CHECK.badArgument("promise 13: 'n' and 65536", x, () -> x.append('n' + 65536));
    CHECK.same("promise 13: 33", x.append(33), 1);
    CHECK.same("promise 13: 126", x.append(126), 2);
    for (int length = 3; length <= 60; length++) {
      CHECK.same("promise 13: length", x.append('n'), length);
    }
    CHECK.badState("promise 13: full", x, () -> x.append('n'));
    CHECK.badArgument("promise 13: first named", x, () -> x.append(32));
    CHECK.same("promise 13: not undoable", x.count(9), 0);
    CHECK.same("promise 13: still full", x.clearBuffer(), 60);
  }

  private static void clearBuffer() {
    ShapedRows x = new ShapedRows();
    CHECK.same("promise 14: empty", x.clearBuffer(), 0);
    Check.type(x, "n;n");
    CHECK.same("promise 14: three", x.clearBuffer(), 3);
    CHECK.same("promise 14: empty again", x.clearBuffer(), 0);
    CHECK.same("promise 14: not undoable", x.count(9), 0);
    CHECK.same("promise 14: what stood there is gone", Check.run(x, "n"), 1);
  }

  private static void firstError() {
    Object[] cases = {
      "", 0, "n", 1, "nn", 1, ";", 0, "n;", 2, "n;;", 2, "*0", 1, "*1", 2, "*12", 3, "*13", 2,
      "*120", 3, "*2", 2, "*20", 2, "+", 1, "+i", 1, "+a", 2, "+a;", 2, "+a=", 3, "+a=;", 3,
      "+a=0", 4, "+a=00", 4, "+a=07", 4, "+a=99", 5, "+a=100", 5, "+a=9;n", 6, "+a:", 3,
      "+a:b", 4, "+a:b+", 5, "+a:b+;", 5, "+a:b+c", 6, "+a:b+c+", 6, "+a:9", 3, "+a:b=", 4,
      "-a=5", 4, "-a:", 2, "-", 1, "-a=05", 4, ">", 1, ">a", 2, ">ab", 3, ">abc", 3, ">aa", 3,
      ">a;", 2, "+A", 1, "N", 0, "+h=1;-h=2;>ab;n;*10", 19, "n;x", 2, "a", 0, "0", 0,
    };
    for (int i = 0; i < cases.length; i += 2) {
      ShapedRows x = new ShapedRows();
      Check.type(x, (String) cases[i]);
      long before = x.digest();
      CHECK.same("promise 15: " + cases[i], x.firstError(), (Integer) cases[i + 1]);
      CHECK.same("promise 15: nothing changes", x.digest(), before);
    }
  }

  /** A matcher that hits the end of a text that does not match would match a longer one. */
  private static void everyCharacterBehindEveryStart() {
    String[] starts = {
      "", "+", "+a", "+a=", "+a=0", "+a=1", "+a=12", "+a:", "+a:h", "+a:h+", "+a:h+c", "-", "-b",
      "-b=", "-b=0", "-b=9", "-b=90", ">", ">c", ">cd", "n", "*", "*1", "*11", "*2", "n;", ";",
      "n;*", "+a:h;", "*1;", "+a=1;", "n;n", "x",
    };
    ShapedRows x = new ShapedRows();
    for (String start : starts) {
      for (int first = 33; first <= 126; first++) {
        for (int second = 33; second <= 126; second += 1 + (first & 3)) {
          x = new ShapedRows();
          String text = start + (char) first + (char) second;
          Check.type(x, text);
          CHECK.same("promise 15: " + text, x.firstError(), firstError(text));
          boolean complete = ORDERS.matcher(text).matches();
          CHECK.isTrue(
              "promise 16: " + text, complete == Check.outcome(x::run).startsWith("answers"));
        }
      }
    }
  }

  private static int firstError(String text) {
    for (int length = 1; length <= text.length(); length++) {
      Matcher matcher = ORDERS.matcher(text.substring(0, length));
      if (!matcher.matches() && !matcher.hitEnd()) {
        return length - 1;
      }
    }
    return text.length();
  }

  private static void ordersOfFullLength() {
    ShapedRows x = new ShapedRows();
    StringBuilder text = new StringBuilder("*12");
    while (text.length() < 59) {
      text.append(";n");
    }
    Check.type(x, text.toString());
    x.append(';');
    CHECK.same("promise 15: more could come, of any length", x.firstError(), 60);
    CHECK.badArgument("promise 16: not complete at 60", x, x::run);
    x.clearBuffer();
    Check.type(x, "n;>ab" + text.substring(5));
    CHECK.same("promise 16: up to the first that is refused", x.run(), 1);
  }

  private static void run() {
    ShapedRows x = new ShapedRows();
    CHECK.same("promise 16: all", Check.run(x, "n;+a=5;+b=99;+c:a;+d:a+b;-b=7;>ae;n;*1;n"), 10);
    CHECK.same("promise 16: buffer is cleared", x.clearBuffer(), 0);
    int[] changes = {0, 1, 1, 2, 3, 4, 5};
    for (int shape = 0; shape < changes.length; shape++) {
      CHECK.same("promise 16: change " + shape, x.shape(shape, 1), changes[shape]);
    }
    CHECK.same("promise 16: shapes", x.count(0), changes.length);
    CHECK.same("promise 16: rows", x.count(2), 3);
    CHECK.same("promise 16: gone on", x.row(0, 0), 6);
    CHECK.same("promise 16: numbers", x.read(0, 6, 4), 5);
    CHECK.same("promise 16: sum", x.read(0, 6, 3), 104);
    CHECK.same("promise 16: copy", x.read(0, 6, 2), 5);
    CHECK.same("promise 16: number of the drop", x.read(1, 2, 1), 7);
    CHECK.same("promise 16: one state", x.count(9), 1);
    CHECK.same("promise 16: twice the same", Check.run(x, "+b:c+c;*12"), 2);
    CHECK.same("promise 16: by twelve", x.count(4), 1);
    CHECK.same("promise 16: sum of both", x.read(0, 7, 1), 10);
    CHECK.same("promise 16: letters h", Check.run(x, "+h=0;>hg;-g=10"), 3);
    CHECK.same("promise 16: two digits", x.read(x.insert(), 9, 6), 10);
  }

  private static void runStops() {
    String[] refused = {
      "+a=1", "+a:a", "+b:c", "+b:a+c", "-b=1", ">bc", ">aa", "+b:b",
    };
    for (String order : refused) {
      ShapedRows x = new ShapedRows();
      x.addNumber(0, 1);
      CHECK.same("promise 16: stops at " + order, Check.run(x, "n;" + order + ";n;+h=1"), 1);
      CHECK.same("promise 16: the rest is left", x.count(2) * 100 + x.count(0), 102);
      CHECK.same("promise 16: cleared all the same", x.clearBuffer(), 0);
      CHECK.same("promise 16: none is carried out", Check.run(x, order), 0);
      CHECK.same("promise 16: undoable all the same", x.count(9), 3);
    }
    ShapedRows x = new ShapedRows();
    CHECK.same("promise 16: rows", Check.run(x, "n;n;n;n;n;n;n;n;n;n;n;n;n;*1"), 12);
    String twelve = "+a=1;>ab;>ba;>ab;>ba;>ab;>ba;>ab;>ba;>ab;>ba;>ab;n";
    CHECK.same("promise 16: shapes", Check.run(x, twelve), 11);
  }

  private static void runRefused() {
    ShapedRows x = new ShapedRows();
    CHECK.badArgument("promise 16: empty", x, x::run);
    String[] texts = {"n;", "n;n;", "+a", "+a=", "*", ">a", "+a:b+", "n;x", "-a", "*13", "nn"};
    for (String text : texts) {
      x.clearBuffer();
      Check.type(x, text);
      CHECK.badArgument("promise 16: " + text, x, x::run);
    }
    CHECK.same("promise 16: the buffer stays", x.clearBuffer(), 2);
    CHECK.same("promise 16: nothing is saved", x.count(9), 0);
  }

  private static void runIsUndoneAsOne() {
    ShapedRows x = new ShapedRows();
    x.insert();
    long before = x.digest();
    Check.run(x, "+a=5;n;*3;+b:a");
    CHECK.same("promise 17: undo", x.undo(), 1);
    CHECK.same("promise 17: all of it", x.digest(), before);
  }

  private static void undo() {
    ShapedRows x = new ShapedRows();
    CHECK.badState("promise 17: none", x, x::undo);
    x.addNumber(0, 1);
    Check.type(x, "n;");
    x.insert();
    CHECK.same("promise 17: left", x.undo(), 1);
    CHECK.same("promise 17: row is gone", x.count(2), 0);
    CHECK.same("promise 17: shape stays", x.count(0), 2);
    x.append('n');
    CHECK.same("promise 17: left none", x.undo(), 0);
    CHECK.same("promise 17: the buffer stays", x.clearBuffer(), 3);
    CHECK.same("promise 17: as new", x.digest(), new ShapedRows().digest());
    CHECK.badState("promise 17: none again", x, x::undo);
  }

  /** Each undoable method saves one state, and undo brings back just what was. */
  private static void undoBringsBackAll() {
    ShapedRows x = new ShapedRows();
    Check.run(x, "n;+a=5;n;+b:a;n");
    x.undo();
    x.addNumber(0, 5);
    x.insert();
    x.addNumber(1, 5);
    x.insert();
    Check.Call[] calls = {
      () -> x.addNumber(2, 9), () -> x.addCopy(2, 0, -1), () -> x.addCopy(2, 0, 1),
      () -> x.drop(0, 9), () -> x.rename(0, 2), x::insert, () -> x.insertBy(0),
      () -> x.write(0, 2, 1, 77), () -> x.write(1, 2, 1, 77), () -> x.remove(0),
      () -> x.goOn(3), () -> x.hold(2, 1), () -> x.hold(2, 0), () -> x.retire(0),
      () -> Check.run(x, "n;+c=1"),
    };
    for (int i = 0; i < calls.length; i++) {
      int saved = x.count(9);
      long before = x.digest();
      calls[i].answer();
      CHECK.same("promise 17: saved by call " + i, x.count(9), saved + 1);
      CHECK.same("promise 17: left after call " + i, x.undo(), saved);
      CHECK.same("promise 17: brought back after call " + i, x.digest(), before);
    }
  }

  private static void sixStates() {
    ShapedRows x = new ShapedRows();
    for (int row = 0; row < 10; row++) {
      x.insert();
      CHECK.same("promise 17: at most six", x.count(9), Math.min(row + 1, 6));
    }
    for (int left = 5; left >= 0; left--) {
      CHECK.same("promise 17: states left", x.undo(), left);
      CHECK.same("promise 17: the latest first", x.count(2), 4 + left);
    }
    CHECK.badState("promise 17: the oldest are dropped", x, x::undo);
    CHECK.same("promise 17: saved anew", x.insert() + x.count(9), 4 + 1);
  }
}
