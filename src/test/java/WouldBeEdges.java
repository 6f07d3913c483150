import java.math.BigInteger;
import java.util.ArrayList;
import java.util.List;

/** Promises 24 to 29, sentence by sentence, on both sides of each boundary. */
final class WouldBeEdges {
  private static final int A = Edges.A;
  private static final int B = Edges.B;
  private static final int C = Edges.C;
  private static final int D = Edges.D;
  private static final int H = Edges.H;

  private final Edges edges;

  WouldBeEdges(Edges edges) {
    this.edges = edges;
  }

  void all() {
    lost();
    against();
    toGo();
    find();
    freshShare();
    digest();
  }

  private void lost() {
    lostTells();
    lostRow();
    lostShape();
    lostReturns();
    lostNoSuchRowOrShape();
    lostRetired();
  }

  private void against() {
    againstTells();
    againstRow();
    againstShape();
    againstLetter();
    againstNothing();
    againstNoSuchLetter();
    againstColumnGone();
    againstNoSuchRowOrShape();
    againstRetired();
    againstOutOfRange();
  }

  private void toGo() {
    toGoTells();
    toGoReturns();
    toGoNone();
  }

  private void find() {
    findFinds();
    findShape();
    findLetter();
    findValue();
    findReturns();
    findReturnsNone();
    findNoSuchShape();
    findRetired();
    findOutOfRange();
  }

  private void freshShare() {
    freshShareReturns();
    freshShareDivides();
    freshShareWithoutRows();
  }

  private void digest() {
    digestComputes();
    digestStarts();
    digestMixes();
    digestCounts();
    digestShapes();
    digestRows();
    digestReaders();
    digestToGoAndFind();
    digestShare();
    digestBuffer();
    digestReturns();
  }

  // ---- promise 24

  private void lostTells() {
    edges.about("Promise 24", "Tells what is lost of a row on the way to a shape and back.");
    Edges.Calls dropped = x -> {
      States.A_ROW.on(x);
      x.drop(A, 9);
      x.drop(B, 9);
    };
    edges.answers(0, dropped, x -> x.lost(0, 2));
    edges.answers(1, dropped, x -> x.lost(0, 3));
    edges.answers(2, dropped, x -> x.lost(0, 4));
    edges.answers(1, dropped, x -> x.lost(0, 1));
    edges.answers(2, dropped, x -> x.lost(0, 0));
    for (int shape = 0; shape <= 4; shape++) {
      int to = shape;
      edges.changesNothing(dropped, x -> x.lost(0, to));
    }
  }

  private void lostRow() {
    edges.about("Promise 24", "`row`: its number");
    edges.refused(Edges.INDEX, States.TWELVE_ROWS, x -> x.lost(-1, 0));
    edges.answers(1, States.TWELVE_ROWS, x -> x.lost(0, 0));
    edges.answers(0, States.TWELVE_ROWS, x -> x.lost(10, 0));
    edges.answers(1, States.TWELVE_ROWS, x -> x.lost(11, 0));
    edges.refused(Edges.INDEX, States.TWELVE_ROWS, x -> x.lost(12, 0));
  }

  private void lostShape() {
    edges.about("Promise 24", "`shape`: the number of a shape that is not retired");
    edges.refused(Edges.INDEX, States.A_ROW, x -> x.lost(0, -1));
    edges.answers(2, States.A_ROW, x -> x.lost(0, 0));
    edges.answers(0, States.A_ROW, x -> x.lost(0, 2));
    edges.refused(Edges.INDEX, States.A_ROW, x -> x.lost(0, 3));
  }

  private void lostReturns() {
    edges.about("Promise 24", "Returns how many of its values would be others, "
        + "if it was rewritten in this shape, and then in its own one.");
    int[] values = {8, 9, 10};
    for (int value : values) {
      Edges.Calls dropped = x -> {
        States.A_ROW.on(x);
        x.write(0, 2, A, value);
        x.drop(A, 9);
      };
      edges.answers(value == 9 ? 0 : 1, dropped, x -> x.lost(0, 3));
      Edges.Calls copied = x -> {
        States.A_ROW.on(x);
        x.addCopy(C, A, Edges.NONE);
        x.goOn(1);
        x.write(0, 3, C, 292 + value);
      };
      edges.answers(value == 8 ? 0 : 1, copied, x -> x.lost(0, 2));
      Edges.Calls summed = x -> {
        States.A_ROW.on(x);
        x.write(0, 2, A, 99990);
        x.addCopy(C, A, B);
        x.goOn(1);
        x.write(0, 3, C, 99989 + value);
      };
      edges.answers(value == 10 ? 0 : 1, summed, x -> x.lost(0, 2));
    }
    Edges.Calls chained = x -> {
      x.addNumber(A, 7);
      x.addCopy(B, A, A);
      x.insert();
      x.write(0, 2, A, 5);
      x.write(0, 2, B, 10);
    };
    edges.answers(0, chained, x -> x.lost(0, 1));
    edges.answers(2, chained, x -> x.lost(0, 0));
    Edges.Calls eight = x -> {
      States.EIGHT_COLUMNS.on(x);
      x.insert();
    };
    for (int shape = 0; shape <= 8; shape++) {
      int to = shape;
      edges.answers(8 - shape, eight, x -> x.lost(0, to));
    }
  }

  private void lostNoSuchRowOrShape() {
    edges.about("Promise 24",
        "Throws `IndexOutOfBoundsException` if there is no such row or shape");
    edges.refused(Edges.INDEX, Edges.NEW, x -> x.lost(0, 0));
    int[] out = {Edges.LEAST, -1, 3, 12, Edges.MOST};
    for (int odd : out) {
      edges.refused(Edges.INDEX, States.A_ROW, x -> x.lost(odd, 2));
      edges.refused(Edges.INDEX, States.A_ROW, x -> x.lost(0, odd));
    }
    edges.answers(1, States.A_ROW, x -> x.lost(0, 1));
  }

  private void lostRetired() {
    edges.about("Promise 24", ", or the shape is retired");
    edges.refused(Edges.INDEX, States.RETIRED, x -> x.lost(0, 0));
    edges.answers(1, States.RETIRED, x -> x.lost(0, 1));
  }

  // ---- promise 25

  private void againstTells() {
    edges.about("Promise 25", "Tells why a write would be refused.");
    Edges.Calls[] states = {States.A_ROW, States.FULL, States.RETIRED, gone()};
    for (Edges.Calls state : states) {
      for (int shape = 1; shape <= 2; shape++) {
        for (int letter = A; letter <= D; letter++) {
          asWriteTells(state, shape, letter);
        }
      }
    }
  }

  private void asWriteTells(Edges.Calls state, int shape, int letter) {
    long why = Edges.made(state).against(0, shape, letter);
    String written = Check.outcome(() -> Edges.made(state).write(0, shape, letter, 5));
    edges.isTrue(written.startsWith("answers") == (why == 0));
    edges.changesNothing(state, x -> x.against(0, shape, letter));
  }

  private void againstRow() {
    edges.about("Promise 25", "`row`: its number");
    edges.refused(Edges.INDEX, gone(), x -> x.against(-1, 1, A));
    edges.answers(2, gone(), x -> x.against(0, 1, A));
    edges.answers(0, gone(), x -> x.against(1, 1, A));
    edges.refused(Edges.INDEX, gone(), x -> x.against(2, 1, A));
  }

  private void againstShape() {
    edges.about("Promise 25", "`shape`: the number of a shape that is not retired");
    edges.refused(Edges.INDEX, States.A_ROW, x -> x.against(0, -1, A));
    edges.answers(1, States.A_ROW, x -> x.against(0, 0, A));
    edges.answers(0, States.A_ROW, x -> x.against(0, 2, A));
    edges.refused(Edges.INDEX, States.A_ROW, x -> x.against(0, 3, A));
  }

  private void againstLetter() {
    edges.about("Promise 25", "`letter`: 0 to 7");
    Edges.Calls ends = x -> {
      x.addNumber(A, 1);
      x.addNumber(H, 1);
      x.insert();
    };
    edges.refused(Edges.ARGUMENT, ends, x -> x.against(0, 2, -1));
    edges.answers(0, ends, x -> x.against(0, 2, 0));
    edges.answers(1, ends, x -> x.against(0, 2, 6));
    edges.answers(0, ends, x -> x.against(0, 2, 7));
    edges.refused(Edges.ARGUMENT, ends, x -> x.against(0, 2, 8));
  }

  private void againstNothing() {
    edges.about("Promise 25", "Returns 0 if it would not be");
    edges.answers(0, States.A_ROW, x -> x.against(0, 1, A));
    edges.answers(0, States.A_ROW, x -> x.against(0, 2, B));
    edges.answers(0, gone(), x -> x.against(1, 3, B));
    edges.answers(0, gone(), x -> x.against(1, 2, A));
    Edges.Calls first = x -> {
      States.TWO_COLUMNS.on(x);
      x.insertBy(0);
    };
    edges.answers(0, first, x -> x.against(0, 1, A));
    edges.answers(0, first, x -> x.against(0, 2, B));
  }

  private void againstNoSuchLetter() {
    edges.about("Promise 25", "; 1 if the shape does not have this letter");
    edges.answers(1, States.A_ROW, x -> x.against(0, 2, C));
    edges.answers(1, States.A_ROW, x -> x.against(0, 1, B));
    edges.answers(0, States.A_ROW, x -> x.against(0, 2, B));
    edges.answers(1, gone(), x -> x.against(0, 3, A));
    edges.answers(1, gone(), x -> x.against(0, 0, A));
  }

  private void againstColumnGone() {
    edges.about("Promise 25", "; 2 if the row does not have the column any more.");
    edges.answers(2, gone(), x -> x.against(0, 1, A));
    edges.answers(2, gone(), x -> x.against(0, 2, A));
    edges.answers(0, gone(), x -> x.against(0, 2, B));
    edges.answers(0, gone(), x -> x.against(1, 2, A));
    Edges.Calls rewritten = x -> {
      gone().on(x);
      x.goOn(2);
      x.addNumber(A, 5);
      x.goOn(2);
    };
    edges.answers(2, rewritten, x -> x.against(1, 2, A));
    edges.answers(0, rewritten, x -> x.against(1, 4, A));
    Edges.Calls added = x -> {
      States.TWO_COLUMNS.on(x);
      x.insertBy(1);
    };
    edges.answers(0, added, x -> x.against(0, 2, B));
  }

  private void againstNoSuchRowOrShape() {
    edges.about("Promise 25",
        "Throws `IndexOutOfBoundsException` if there is no such row or shape");
    edges.refused(Edges.INDEX, States.TWO_COLUMNS, x -> x.against(0, 2, A));
    int[] out = {Edges.LEAST, -1, 3, 12, Edges.MOST};
    for (int odd : out) {
      edges.refused(Edges.INDEX, States.A_ROW, x -> x.against(odd, 2, A));
      edges.refused(Edges.INDEX, States.A_ROW, x -> x.against(0, odd, A));
    }
    edges.answers(0, States.A_ROW, x -> x.against(0, 2, A));
  }

  private void againstRetired() {
    edges.about("Promise 25", ", or the shape is retired");
    edges.refused(Edges.INDEX, States.RETIRED, x -> x.against(0, 0, A));
    edges.answers(0, States.RETIRED, x -> x.against(0, 1, A));
    edges.answers(1, States.RETIRED, x -> x.against(0, 1, B));
  }

  private void againstOutOfRange() {
    edges.about("Promise 25", "Throws `IllegalArgumentException` if letter is out of range");
    edges.refused(Edges.ARGUMENT, States.A_ROW, x -> x.against(0, 0, -1));
    edges.refused(Edges.ARGUMENT, States.A_ROW, x -> x.against(0, 2, Edges.LEAST));
    edges.refused(Edges.ARGUMENT, States.A_ROW, x -> x.against(0, 2, Edges.MOST));
    edges.refused(Edges.ARGUMENT, States.A_ROW, x -> x.against(0, 2, 8));
    edges.answers(1, States.A_ROW, x -> x.against(0, 2, 7));
  }

  // ---- promise 26

  private void toGoTells() {
    edges.about("Promise 26", "Tells how long the cursor takes.");
    for (int ahead = 1; ahead <= 12; ahead++) {
      int steps = ahead;
      Edges.Calls state = x -> {
        States.TWELVE_ROWS.on(x);
        x.goOn(steps);
        x.addNumber(B, 1);
        x.goOn(3);
      };
      edges.answers(9, state, ShapedRows::toGo);
      edges.changesNothing(state, ShapedRows::toGo);
      edges.same(1, goneOn(state, 8).count(3));
      edges.same(0, goneOn(state, 9).count(3));
    }
  }

  private void toGoReturns() {
    edges.about("Promise 26",
        "Returns by how many rows it has to go on until all rows have the newest shape");
    for (int old = 0; old < 12; old++) {
      int only = old;
      Edges.Calls one = x -> {
        States.ONE_COLUMN.on(x);
        for (int row = 0; row < 12; row++) {
          x.insertBy(row == only ? 0 : 1);
        }
      };
      edges.answers(old + 1, one, ShapedRows::toGo);
      edges.same(1, goneOn(one, old).count(3));
      edges.same(0, goneOn(one, old + 1).count(3));
      Edges.Calls fromFive = x -> {
        for (int row = 0; row < 12; row++) {
          x.insert();
        }
        x.goOn(5);
        x.addNumber(A, 1);
        for (int row = 0; row < 12; row++) {
          if (row != only) {
            x.write(row, 1, A, 1);
          }
        }
      };
      edges.answers(old < 5 ? old + 8 : old - 4, fromFive, ShapedRows::toGo);
    }
    edges.answers(12, States.oldRows(12), ShapedRows::toGo);
  }

  private void toGoNone() {
    edges.about("Promise 26", "(0 if they have).");
    edges.answers(0, Edges.NEW, ShapedRows::toGo);
    edges.answers(0, States.TWO_COLUMNS, ShapedRows::toGo);
    edges.answers(0, States.A_ROW, ShapedRows::toGo);
    edges.answers(1, States.oldRows(1), ShapedRows::toGo);
    edges.same(0, goneOn(States.oldRows(1), 1).toGo());
    edges.answers(0, States.oneRemoved(States.oldRows(1)), ShapedRows::toGo);
    Edges.Calls behind = x -> {
      States.TWELVE_ROWS.on(x);
      x.goOn(12);
    };
    edges.answers(0, behind, ShapedRows::toGo);
  }

  // ---- promise 27

  private void findFinds() {
    edges.about("Promise 27", "Finds the rows with a value.");
    for (int row = 0; row < 12; row++) {
      int only = row;
      edges.answers(1 << row, States.TWELVE_ROWS, x -> x.find(1, A, only + 1));
    }
    edges.answers(0, States.TWELVE_ROWS, x -> x.find(1, A, 0));
    edges.answers(0, States.TWELVE_ROWS, x -> x.find(1, A, 13));
    edges.changesNothing(States.TWELVE_ROWS, x -> x.find(1, A, 5));
  }

  private void findShape() {
    edges.about("Promise 27", "`shape`: the number of a shape that is not retired");
    edges.refused(Edges.INDEX, States.A_ROW, x -> x.find(-1, A, 300));
    edges.answers(0, States.A_ROW, x -> x.find(0, A, 300));
    edges.answers(1, States.A_ROW, x -> x.find(2, A, 300));
    edges.refused(Edges.INDEX, States.A_ROW, x -> x.find(3, A, 300));
  }

  private void findLetter() {
    edges.about("Promise 27", "`letter`: 0 to 7");
    Edges.Calls eight = x -> {
      States.EIGHT_COLUMNS.on(x);
      x.insertBy(0);
    };
    edges.refused(Edges.ARGUMENT, eight, x -> x.find(8, -1, 10));
    edges.answers(1, eight, x -> x.find(8, 0, 10));
    edges.answers(1, eight, x -> x.find(8, 7, 17));
    edges.refused(Edges.ARGUMENT, eight, x -> x.find(8, 8, 17));
  }

  private void findValue() {
    edges.about("Promise 27", "`value`: 0 to 99999");
    Edges.Calls ends = x -> {
      States.TWO_COLUMNS.on(x);
      x.insert();
      x.insert();
      x.write(1, 2, A, 99999);
    };
    edges.refused(Edges.ARGUMENT, ends, x -> x.find(2, A, -1));
    edges.answers(1, ends, x -> x.find(2, A, 0));
    edges.answers(2, ends, x -> x.find(2, A, 99999));
    edges.refused(Edges.ARGUMENT, ends, x -> x.find(2, A, 100000));
  }

  private void findReturns() {
    edges.about("Promise 27",
        "Returns the rows that have this value, read by this shape, as a mask");
    edges.answers(4095, States.oldRows(12), x -> x.find(1, A, 11));
    Edges.Calls shapes = x -> {
      States.TWO_COLUMNS.on(x);
      x.insertBy(0);
      x.insertBy(1);
      x.insertBy(2);
      x.drop(A, 11);
      x.insert();
    };
    edges.answers(1 | 8, shapes, x -> x.find(1, A, 11));
    edges.answers(2 | 4, shapes, x -> x.find(1, A, 0));
    edges.answers(1 | 2, shapes, x -> x.find(2, B, 22));
    edges.answers(4 | 8, shapes, x -> x.find(3, B, 0));
    edges.answers(0, Edges.NEW, x -> x.find(0, A, 0));
  }

  private void findReturnsNone() {
    edges.about("Promise 27", "(0 if the shape does not have this letter).");
    edges.answers(0, States.RETIRED, x -> x.find(1, B, 0));
    edges.answers(1, States.RETIRED, x -> x.find(1, A, 0));
    edges.answers(1, States.RETIRED, x -> x.find(2, B, 0));
    edges.answers(0, States.RETIRED, x -> x.find(2, C, 0));
    edges.answers(0, States.RETIRED, x -> x.find(2, H, 0));
  }

  private void findNoSuchShape() {
    edges.about("Promise 27", "Throws `IndexOutOfBoundsException` if there is no such shape");
    edges.refused(Edges.INDEX, Edges.NEW, x -> x.find(1, A, 0));
    edges.refused(Edges.INDEX, States.A_ROW, x -> x.find(Edges.LEAST, A, 0));
    edges.refused(Edges.INDEX, States.A_ROW, x -> x.find(Edges.MOST, A, 0));
    edges.answers(0, States.TWELVE_SHAPES, x -> x.find(11, A, 0));
    edges.refused(Edges.INDEX, States.TWELVE_SHAPES, x -> x.find(12, A, 0));
  }

  private void findRetired() {
    edges.about("Promise 27", ", or it is retired");
    edges.refused(Edges.INDEX, States.RETIRED, x -> x.find(0, A, 0));
    edges.answers(1, States.RETIRED, x -> x.find(1, A, 0));
  }

  private void findOutOfRange() {
    edges.about("Promise 27",
        "Throws `IllegalArgumentException` if letter or value is out of range");
    edges.refused(Edges.ARGUMENT, States.A_ROW, x -> x.find(2, Edges.LEAST, 300));
    edges.refused(Edges.ARGUMENT, States.A_ROW, x -> x.find(2, Edges.MOST, 300));
    edges.refused(Edges.ARGUMENT, States.A_ROW, x -> x.find(2, A, Edges.LEAST));
    edges.refused(Edges.ARGUMENT, States.A_ROW, x -> x.find(2, A, Edges.MOST));
    edges.refused(Edges.ARGUMENT, States.A_ROW, x -> x.find(0, A, -1));
    edges.refused(Edges.ARGUMENT, States.A_ROW, x -> x.find(0, H, 100000));
    edges.answers(0, States.A_ROW, x -> x.find(0, H, 99999));
  }

  // ---- promise 28

  private void freshShareReturns() {
    edges.about("Promise 28", "Returns how many rows are up to date.");
    edges.isTrue(Edges.made(States.A_ROW).freshShare() == 1.0);
    edges.isTrue(Edges.made(States.oldRows(1)).freshShare() == 0.0);
    edges.changesNothing(States.FULL, x -> (long) x.freshShare());
  }

  private void freshShareDivides() {
    edges.about("Promise 28",
        "Returns the rows with the newest shape, as a double, divided by all rows");
    for (int all = 1; all <= 12; all++) {
      for (int fresh = 0; fresh <= all; fresh++) {
        ShapedRows x = new ShapedRows();
        x.addNumber(A, 1);
        for (int row = 0; row < all; row++) {
          x.insertBy(row < fresh ? 1 : 0);
        }
        long due = Double.doubleToLongBits((double) fresh / all);
        edges.same(due, Double.doubleToLongBits(x.freshShare()));
      }
    }
  }

  private void freshShareWithoutRows() {
    edges.about("Promise 28", "; 1.0 without rows.");
    edges.isTrue(new ShapedRows().freshShare() == 1.0);
    edges.isTrue(Edges.made(States.oneRemoved(States.oldRows(1))).freshShare() == 1.0);
    edges.isTrue(Edges.made(States.oneRemoved(States.oldRows(2))).freshShare() == 0.0);
  }

  // ---- promise 29

  private void digestComputes() {
    edges.about("Promise 29", "Computes a hash of the whole state.");
    edges.changesNothing(States.FULL, ShapedRows::digest);
    edges.same(Edges.made(States.FULL).digest(), Edges.made(States.FULL).digest());
    Edges.Call[] changes = {
      x -> x.append('n'), x -> x.insert(), x -> x.hold(2, 2), x -> x.goOn(1),
      x -> x.write(0, 4, B, 1), x -> x.addNumber(A, 1), x -> x.remove(1), ShapedRows::undo,
      ShapedRows::clearBuffer,
    };
    long before = Edges.made(States.FULL).digest();
    for (Edges.Call change : changes) {
      ShapedRows x = Edges.made(States.FULL);
      change.on(x);
      edges.isTrue(x.digest() != before);
    }
  }

  private void digestStarts() {
    edges.about("Promise 29", "The hash starts at 2699.");
    long[] values = {
      1, 0, 0, 0, 0, 0, 0, 0, 0, 0, 0, 0, 0, 4, 0, 0, 0, 0, 0, 0, 0, 0,
      Double.doubleToLongBits(1.0), 0,
    };
    long hash = 2699;
    for (long value : values) {
      hash = 31 * hash + value;
    }
    edges.same(hash, new ShapedRows().digest());
  }

  private void digestMixes() {
    edges.about("Promise 29", "For each value v of the following list, in order, "
        + "the hash becomes 31 * hash + v, in long arithmetic with overflow.");
    BigInteger hash = BigInteger.valueOf(2699);
    List<Long> values = listOf(Edges.made(States.FULL), new int[] {1, 1, 1, 2}, "n;+x");
    for (long value : values) {
      hash = hash.multiply(BigInteger.valueOf(31)).add(BigInteger.valueOf(value));
    }
    edges.isTrue(hash.bitLength() > 64);
    edges.same(hash.longValue(), Edges.made(States.FULL).digest());
  }

  private void digestCounts() {
    edges.about("Promise 29", "The values are: count(0) to count(9);");
    isDigest(Edges.NEW, new int[4], "");
    isDigest(States.A_ROW, new int[4], "");
    isDigest(States.TWELVE_ROWS, new int[4], "");
    isDigest(States.RETIRED, new int[] {1, 1, 1, 1}, "");
    isDigest(States.undone(States.FULL), new int[] {1, 1, 1, 2}, "n;+x");
  }

  private void digestShapes() {
    edges.about("Promise 29",
        "for each shape its properties 0 to 5, and for each of its columns the numbers 0 to 2;");
    isDigest(States.ONE_COLUMN, new int[4], "");
    isDigest(States.EIGHT_COLUMNS, new int[4], "");
    isDigest(States.TWELVE_SHAPES, new int[4], "");
    Edges.Calls retired = x -> {
      States.TWELVE_SHAPES.on(x);
      Check.holdAll(x, 11);
      x.retire(11);
    };
    isDigest(retired, new int[] {11, 11, 11, 11}, "");
  }

  private void digestRows() {
    edges.about("Promise 29", "for each row its properties 0 to 5, and for each shape that is not "
        + "retired the values of its columns, in their order, and what would be lost;");
    isDigest(States.FULL, new int[] {1, 1, 1, 2}, "n;+x");
    isDigest(States.oldRows(12), new int[4], "");
    Edges.Calls twelve = x -> {
      States.EIGHT_COLUMNS.on(x);
      x.drop(A, 1);
      x.rename(H, A);
      x.addCopy(H, B, A);
      for (int row = 0; row < 12; row++) {
        x.insertBy(row);
      }
      for (int row = 2; row < 12; row++) {
        x.write(row, 9, B, 99999 - row);
      }
    };
    isDigest(twelve, new int[4], "");
  }

  private void digestReaders() {
    edges.about("Promise 29", "the shapes that the readers hold;");
    int[][] holds = {{0, 0, 0, 1}, {0, 0, 1, 0}, {2, 1, 0, 2}, {2, 2, 2, 2}};
    for (int[] held : holds) {
      Edges.Calls state = x -> {
        States.A_ROW.on(x);
        for (int reader = 0; reader < 4; reader++) {
          x.hold(reader, held[reader]);
        }
      };
      isDigest(state, held, "");
    }
  }

  private void digestToGoAndFind() {
    edges.about("Promise 29", "toGo; find of the newest shape, the letter 0 and the value 5;");
    isDigest(States.oldRows(5), new int[4], "");
    Edges.Calls fives = x -> {
      States.A_ROW.on(x);
      x.write(0, 2, A, 5);
      x.insert();
      x.write(1, 2, B, 5);
      x.insertBy(1);
      x.write(2, 1, A, 5);
    };
    edges.answers(1 | 4, fives, x -> x.find(2, 0, 5));
    isDigest(fives, new int[4], "");
    Edges.Calls other = x -> {
      fives.on(x);
      x.drop(A, 5);
      x.rename(B, A);
    };
    edges.answers(2, other, x -> x.find(4, 0, 5));
    isDigest(other, new int[4], "");
  }

  private void digestShare() {
    edges.about("Promise 29", "the bits of freshShare (as Double.doubleToLongBits);");
    for (int all = 0; all <= 12; all++) {
      for (int fresh = 0; fresh <= all; fresh++) {
        int rows = all;
        int steps = fresh;
        Edges.Calls state = x -> {
          States.oldRows(rows).on(x);
          if (steps > 0) {
            x.goOn(steps);
          }
        };
        isDigest(state, new int[4], "");
      }
    }
  }

  private void digestBuffer() {
    edges.about("Promise 29", "the length of the buffer and each of its character codes.");
    String sixty = "!~;+-=:>n*abcdefghijklmnopqrstuvwxyz0123456789ABCDEFGHIJKLMN";
    String[] texts = {"", "!", "~", "n;", ";n", sixty};
    for (String text : texts) {
      isDigest(x -> Check.type(x, text), new int[4], text);
    }
    edges.same(60, sixty.length());
    Edges.Calls cleared = x -> {
      Check.type(x, sixty);
      x.clearBuffer();
      x.append('n');
    };
    isDigest(cleared, new int[4], "n");
  }

  private void digestReturns() {
    edges.about("Promise 29", "Returns the hash.");
    edges.isTrue(new ShapedRows().digest() != 0);
    edges.same(new ShapedRows().digest(), new ShapedRows().digest());
  }

  // ---- what the tests above share

  /** "a" is dropped: the row 0 is of the shape 3, without it; the row 1 is of the shape 2. */
  private static Edges.Calls gone() {
    return x -> {
      States.TWO_COLUMNS.on(x);
      x.drop(A, 9);
      x.insert();
      x.insertBy(2);
    };
  }

  private static ShapedRows goneOn(Edges.Calls before, int steps) {
    ShapedRows x = Edges.made(before);
    for (int step = 0; step < steps; step++) {
      x.goOn(1);
    }
    return x;
  }

  private void isDigest(Edges.Calls state, int[] held, String text) {
    ShapedRows x = Edges.made(state);
    long hash = 2699;
    for (long value : listOf(x, held, text)) {
      hash = 31 * hash + value;
    }
    edges.same(hash, x.digest());
  }

  /** The document's list, by the other methods of the face, whose answers have their own tests. */
  private static List<Long> listOf(ShapedRows x, int[] held, String text) {
    List<Long> list = new ArrayList<>();
    for (int what = 0; what <= 9; what++) {
      list.add((long) x.count(what));
    }
    for (int shape = 0; shape < x.count(0); shape++) {
      addShape(x, shape, list);
    }
    for (int row = 0; row < x.count(2); row++) {
      addRow(x, row, list);
    }
    for (int shape : held) {
      list.add((long) shape);
    }
    list.add((long) x.toGo());
    list.add((long) x.find(x.count(0) - 1, 0, 5));
    list.add(Double.doubleToLongBits(x.freshShare()));
    list.add((long) text.length());
    for (int place = 0; place < text.length(); place++) {
      list.add((long) text.charAt(place));
    }
    return list;
  }

  private static void addShape(ShapedRows x, int shape, List<Long> list) {
    for (int what = 0; what <= 5; what++) {
      list.add((long) x.shape(shape, what));
    }
    for (int place = 0; place < x.shape(shape, 0); place++) {
      for (int what = 0; what <= 2; what++) {
        list.add((long) x.column(shape, place, what));
      }
    }
  }

  private static void addRow(ShapedRows x, int row, List<Long> list) {
    for (int what = 0; what <= 5; what++) {
      list.add((long) x.row(row, what));
    }
    for (int shape = x.count(1); shape < x.count(0); shape++) {
      for (int place = 0; place < x.shape(shape, 0); place++) {
        list.add((long) x.read(row, shape, x.column(shape, place, 0)));
      }
      list.add((long) x.lost(row, shape));
    }
  }
}
