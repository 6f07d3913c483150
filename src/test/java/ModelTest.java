import java.util.Random;

/**
 * Long runs of calls on ShapedRows and on the model, all from seeds that are written here, so that
 * a run that fails can be made again. Every answer, every exception's very class and the digest
 * behind each call are held against each other.
 */
public final class ModelTest {
  private static final int RUNS = 3000;
  private static final int CALLS = 250;
  private static final Check CHECK = new Check();
  private static final int[] ODD = {
    Integer.MIN_VALUE, Integer.MIN_VALUE + 1, -65536, -13, -2, -1, 8, 12, 13, 60, 100, 100000,
    1 << 28, 1 << 29, 1 << 30, Integer.MAX_VALUE - 1, Integer.MAX_VALUE,
  };

  private final Random random;
  private final int oddShare;
  private final ShapedRows x = new ShapedRows();
  private final Model y = new Model();
  private final StringBuilder told = new StringBuilder();

  private ModelTest(long seed) {
    random = new Random(seed);
    oddShare = seed % 5 == 0 ? 6 : 60;
  }

  public static void main(String[] args) {
    for (long seed = 1; seed <= RUNS; seed++) {
      new ModelTest(seed).play(seed);
    }
    CHECK.end("ModelTest");
  }

  private void play(long seed) {
    for (int call = 0; call < CALLS; call++) {
      step();
      if (x.digest() != y.digest()) {
        CHECK.tell("seed " + seed + ", call " + call + ": digest, after " + told);
        return;
      }
    }
    CHECK.same("seed " + seed, x.digest(), y.digest());
  }

  private void step() {
    int kind = random.nextInt(100);
    if (kind < 30) {
      change();
    } else if (kind < 60) {
      rowsAndReaders();
    } else if (kind < 70) {
      text();
    } else {
      look();
    }
  }

  private void change() {
    int a = letter();
    int b = letter();
    int c = random.nextInt(3) == 0 ? -1 : letter();
    int number = number(99);
    switch (random.nextInt(7)) {
      case 0, 1 -> both("addNumber " + a + " " + number, () -> x.addNumber(a, number),
          () -> y.addNumber(a, number));
      case 2, 3 -> both("addCopy " + a + " " + b + " " + c, () -> x.addCopy(a, b, c),
          () -> y.addCopy(a, b, c));
      case 4 -> both("drop " + a + " " + number, () -> x.drop(a, number), () -> y.drop(a, number));
      case 5 -> both("rename " + a + " " + b, () -> x.rename(a, b), () -> y.rename(a, b));
      default -> {
        if (random.nextInt(3) == 0) {
          both("undo", x::undo, y::undo);
        }
      }
    }
  }

  private void rowsAndReaders() {
    int row = row();
    int shape = shape();
    int letter = letter();
    int value = random.nextInt(4) == 0 ? number(99999) : number(20);
    int reader = number(3);
    int steps = 1 + number(random.nextInt(4) == 0 ? 11 : 2);
    switch (random.nextInt(14)) {
      case 0 -> both("insert", x::insert, y::insert);
      case 1, 2 -> both("insertBy " + shape, () -> x.insertBy(shape), () -> y.insertBy(shape));
      case 3, 4, 5, 6, 7 -> both("write " + row + " " + shape + " " + letter + " " + value,
          () -> x.write(row, shape, letter, value), () -> y.write(row, shape, letter, value));
      case 8 -> both("remove " + row, () -> x.remove(row), () -> y.remove(row));
      case 9, 10 -> both("goOn " + steps, () -> x.goOn(steps), () -> y.goOn(steps));
      case 11, 12 -> both("hold " + reader + " " + shape, () -> x.hold(reader, shape),
          () -> y.hold(reader, shape));
      default -> both("retire " + shape, () -> x.retire(shape), () -> y.retire(shape));
    }
  }

  private void text() {
    int kind = random.nextInt(4);
    if (kind == 0) {
      both("clearBuffer", x::clearBuffer, y::clearBuffer);
    } else if (kind == 1) {
      int code = number(140);
      both("append " + code, () -> x.append(code), () -> y.append(code));
    } else {
      both("clearBuffer", x::clearBuffer, y::clearBuffer);
      String text = orders();
      for (int i = 0; i < text.length(); i++) {
        char code = text.charAt(i);
        both("append " + code, () -> x.append(code), () -> y.append(code));
      }
    }
    both("firstError", x::firstError, y::firstError);
    both("run", x::run, y::run);
    if (random.nextInt(2) == 0) {
      both("undo", x::undo, y::undo);
    }
  }

  /** Orders, now and then with a character exchanged, left out, or put in. */
  private String orders() {
    StringBuilder text = new StringBuilder(order());
    for (int more = random.nextInt(8); more > 0; more--) {
      text.append(';').append(order());
    }
    if (random.nextInt(3) == 0) {
      int place = random.nextInt(text.length());
      char code = "+-=:>n*;abh019".charAt(random.nextInt(14));
      switch (random.nextInt(3)) {
        case 0 -> text.setCharAt(place, code);
        case 1 -> text.deleteCharAt(place);
        default -> text.insert(place, code);
      }
    }
    return text.toString();
  }

  private String order() {
    char a = (char) ('a' + random.nextInt(8));
    char b = (char) ('a' + random.nextInt(8));
    char c = (char) ('a' + random.nextInt(8));
    int number = random.nextInt(100);
    return switch (random.nextInt(7)) {
      case 0 -> "+" + a + "=" + number;
      case 1 -> "+" + a + ":" + b;
      case 2 -> "+" + a + ":" + b + "+" + c;
      case 3 -> "-" + a + "=" + number % 12;
      case 4 -> ">" + a + b;
      case 5 -> "n";
      default -> "*" + (1 + number % 12);
    };
  }

  private void look() {
    int row = row();
    int shape = shape();
    int letter = letter();
    int value = number(20);
    int reader = number(3);
    int place = number(8);
    int what = number(random.nextInt(2) == 0 ? 2 : 9);
    both("read", () -> x.read(row, shape, letter), () -> y.read(row, shape, letter));
    both("readAs", () -> x.readAs(reader, row, letter), () -> y.readAs(reader, row, letter));
    both("column", () -> x.column(shape, place, what), () -> y.column(shape, place, what));
    both("shape", () -> x.shape(shape, what), () -> y.shape(shape, what));
    both("row", () -> x.row(row, what), () -> y.row(row, what));
    both("count", () -> x.count(what), () -> y.count(what));
    both("lost", () -> x.lost(row, shape), () -> y.lost(row, shape));
    both("against", () -> x.against(row, shape, letter), () -> y.against(row, shape, letter));
    both("toGo", x::toGo, y::toGo);
    both("find", () -> x.find(shape, letter, value), () -> y.find(shape, letter, value));
    both("freshShare", () -> Double.doubleToLongBits(x.freshShare()),
        () -> Double.doubleToLongBits(y.freshShare()));
    both("firstError", x::firstError, y::firstError);
  }

  private void both(String call, Check.Call ours, Check.Call models) {
    String got = Check.outcome(ours);
    String due = Check.outcome(models);
    told.append(call).append("; ");
    if (!got.equals(due)) {
      CHECK.tell(call + " " + got + ", due is " + due + ", after " + told);
    }
  }

  private int letter() {
    return number(random.nextInt(3) == 0 ? 7 : 3);
  }

  private int row() {
    return number(Math.max(y.count(2) - 1, 0));
  }

  private int shape() {
    int mark = random.nextInt(8) == 0 ? 0 : y.count(1);
    int number = number(y.count(0) - 1 - mark);
    return number < 0 || number > 11 ? number : mark + number;
  }

  private int number(int most) {
    return random.nextInt(oddShare) == 0
        ? ODD[random.nextInt(ODD.length)]
        : random.nextInt(most + 1);
  }
}
