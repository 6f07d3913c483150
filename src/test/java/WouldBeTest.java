/** Promises 24 to 29: what would be, and the digest. */
public final class WouldBeTest {
  private static final Check CHECK = new Check();

  private WouldBeTest() {}

  public static void main(String[] args) {
    lostForthAndBack();
    lostBackAndForth();
    lostRefused();
    against();
    againstRefused();
    toGo();
    toGoIsWhatGoOnTakes();
    find();
    findRefused();
    freshShare();
    digestOfNew();
    digestOfAll();
    digestOfShares();
    CHECK.end("WouldBeTest");
  }

  private static void lostForthAndBack() {
    ShapedRows x = new ShapedRows();
    x.addNumber(0, 5);
    x.addNumber(1, 6);
    x.insert();
    x.write(0, 2, 0, 50);
    x.write(0, 2, 1, 33);
    x.drop(0, 49);
    x.drop(1, 33);
    CHECK.same("promise 24: own shape", x.lost(0, 2), 0);
    CHECK.same("promise 24: one is dropped", x.lost(0, 3), 1);
    CHECK.same("promise 24: the other gets the same", x.lost(0, 4), 1);
    x.write(0, 2, 1, 34);
    CHECK.same("promise 24: both are others", x.lost(0, 4), 2);
    x.write(0, 2, 0, 49);
    CHECK.same("promise 24: the number of the drop", x.lost(0, 3), 0);
  }

  private static void lostBackAndForth() {
    ShapedRows x = new ShapedRows();
    x.addNumber(0, 5);
    x.addNumber(1, 6);
    x.addCopy(2, 0, 1);
    x.rename(0, 7);
    x.insert();
    x.write(0, 4, 7, 10);
    x.write(0, 4, 1, 6);
    x.write(0, 4, 2, 16);
    CHECK.same("promise 24: before the rename", x.lost(0, 3), 0);
    CHECK.same("promise 24: sum comes again", x.lost(0, 2), 0);
    CHECK.same("promise 24: number comes again", x.lost(0, 1), 0);
    CHECK.same("promise 24: the first one, and the sum of it", x.lost(0, 0), 2);
    x.write(0, 4, 2, 17);
    CHECK.same("promise 24: another sum", x.lost(0, 2), 1);
    x.write(0, 4, 1, 7);
    CHECK.same("promise 24: another number, so the sum is right", x.lost(0, 1), 2);
  }

  private static void lostRefused() {
    ShapedRows x = new ShapedRows();
    x.addNumber(0, 5);
    x.insert();
    CHECK.badIndex("promise 24: row -1", x, () -> x.lost(-1, 0));
    CHECK.badIndex("promise 24: row 1", x, () -> x.lost(1, 0));
    CHECK.badIndex("promise 24: shape -1", x, () -> x.lost(0, -1));
    CHECK.badIndex("promise 24: shape 2", x, () -> x.lost(0, 2));
    Check.holdAll(x, 1);
    x.retire(1);
    CHECK.badIndex("promise 24: retired", x, () -> x.lost(0, 0));
  }

  private static void against() {
    ShapedRows x = new ShapedRows();
    x.addNumber(0, 5);
    x.addNumber(1, 6);
    x.drop(0, 7);
    x.rename(1, 0);
    x.insert();
    x.insertBy(1);
    CHECK.same("promise 25: gone", x.against(0, 1, 0), 2);
    CHECK.same("promise 25: gone, by another shape", x.against(0, 2, 0), 2);
    CHECK.same("promise 25: the same column", x.against(0, 2, 1), 0);
    CHECK.same("promise 25: no such letter", x.against(0, 1, 1), 1);
    CHECK.same("promise 25: former letter", x.against(0, 4, 1), 1);
    CHECK.same("promise 25: own", x.against(0, 4, 0), 0);
    CHECK.same("promise 25: it would be rewritten", x.against(1, 2, 1), 0);
    CHECK.same("promise 25: renamed, it would be rewritten", x.against(1, 4, 0), 0);
    CHECK.same("promise 25: still there in the row", x.against(1, 2, 0), 0);
    CHECK.same("promise 25: the shape 0", x.against(1, 0, 0), 1);
  }

  private static void againstRefused() {
    ShapedRows x = new ShapedRows();
    x.addNumber(0, 5);
    x.insert();
    CHECK.badIndex("promise 25: row -1", x, () -> x.against(-1, 1, 0));
    CHECK.badIndex("promise 25: row 1", x, () -> x.against(1, 1, 0));
    CHECK.badIndex("promise 25: shape -1", x, () -> x.against(0, -1, 0));
    CHECK.badIndex("promise 25: shape 2", x, () -> x.against(0, 2, 0));
    CHECK.badIndex("promise 25: index first", x, () -> x.against(0, 2, 8));
    CHECK.badArgument("promise 25: letter -1", x, () -> x.against(0, 1, -1));
    CHECK.badArgument("promise 25: letter 8", x, () -> x.against(0, 1, 8));
    Check.holdAll(x, 1);
    x.retire(1);
    CHECK.badIndex("promise 25: retired", x, () -> x.against(0, 0, 0));
  }

  private static void toGo() {
    ShapedRows x = new ShapedRows();
    CHECK.same("promise 26: no rows", x.toGo(), 0);
    x.addNumber(0, 5);
    CHECK.same("promise 26: still no rows", x.toGo(), 0);
    x.insert();
    CHECK.same("promise 26: all are new", x.toGo(), 0);
    x.insertBy(0);
    x.insert();
    CHECK.same("promise 26: to the second", x.toGo(), 2);
    x.goOn(1);
    CHECK.same("promise 26: from the second", x.toGo(), 1);
    x.goOn(1);
    CHECK.same("promise 26: done", x.toGo(), 0);
    x.addNumber(1, 5);
    CHECK.same("promise 26: round", x.toGo(), 3);
    x.goOn(1);
    CHECK.same("promise 26: from behind the last", x.toGo(), 2);
  }

  private static void toGoIsWhatGoOnTakes() {
    for (int rows = 1; rows <= 12; rows++) {
      for (int ahead = 1; ahead <= rows; ahead++) {
        for (int old = 0; old < rows; old++) {
          ShapedRows x = new ShapedRows();
          x.addNumber(0, 1);
          for (int row = 0; row < rows; row++) {
            x.insert();
          }
          x.goOn(ahead);
          x.addNumber(1, 1);
          for (int row = 0; row < rows; row++) {
            if (row != old) {
              x.write(row, 2, 1, 1);
            }
          }
          int steps = x.toGo();
          int taken = 0;
          while (x.count(3) > 0 && taken < 20) {
            x.goOn(1);
            taken++;
          }
          CHECK.same("promise 26: " + rows + " " + ahead + " " + old, steps, taken);
        }
      }
    }
  }

  private static void find() {
    ShapedRows x = new ShapedRows();
    x.addNumber(0, 5);
    x.addNumber(1, 6);
    x.insertBy(1);
    x.insertBy(0);
    x.insertBy(2);
    x.insertBy(0);
    CHECK.same("promise 27: added number", x.find(2, 0, 5), 1 << 1 | 1 << 3);
    CHECK.same("promise 27: own values", x.find(2, 0, 0), 1 | 1 << 2);
    CHECK.same("promise 27: no such letter", x.find(1, 1, 0), 0);
    CHECK.same("promise 27: no such value", x.find(2, 0, 99999), 0);
    x.write(2, 2, 0, 99999);
    CHECK.same("promise 27: greatest value", x.find(2, 0, 99999), 1 << 2);
    CHECK.same("promise 27: by an older shape", x.find(1, 0, 99999), 1 << 2);
    CHECK.same("promise 27: by the shape 0", x.find(0, 0, 0), 0);
  }

  private static void findRefused() {
    ShapedRows x = new ShapedRows();
    x.addNumber(0, 5);
    x.insert();
    CHECK.badIndex("promise 27: shape -1", x, () -> x.find(-1, 0, 0));
    CHECK.badIndex("promise 27: shape 2", x, () -> x.find(2, 0, 0));
    CHECK.badIndex("promise 27: index first", x, () -> x.find(2, 8, -1));
    CHECK.badArgument("promise 27: letter -1", x, () -> x.find(1, -1, 0));
    CHECK.badArgument("promise 27: letter 8", x, () -> x.find(1, 8, 0));
    CHECK.badArgument("promise 27: value -1", x, () -> x.find(1, 0, -1));
    CHECK.badArgument("promise 27: value 100000", x, () -> x.find(1, 0, 100000));
    CHECK.badArgument("promise 27: value -1, no such letter", x, () -> x.find(1, 5, -1));
    Check.holdAll(x, 1);
    x.retire(1);
    CHECK.badIndex("promise 27: retired", x, () -> x.find(0, 0, 0));
  }

  private static void freshShare() {
    ShapedRows x = new ShapedRows();
    CHECK.sameDouble("promise 28: no rows", x.freshShare(), 1.0);
    x.insert();
    CHECK.sameDouble("promise 28: all", x.freshShare(), 1.0);
    x.addNumber(0, 5);
    CHECK.sameDouble("promise 28: none", x.freshShare(), 0.0);
    x.insert();
    x.insert();
    CHECK.sameDouble("promise 28: two of three", x.freshShare(), 2.0 / 3);
  }

  private static void digestOfNew() {
    ShapedRows x = new ShapedRows();
    long[] values = {
      1, 0, 0, 0, 0, 0, 0, 0, 0, 0, 0, 0, 0, 4, 0, 0, 0, 0, 0, 0, 0, 0,
      Double.doubleToLongBits(1.0), 0,
    };
    CHECK.same("promise 29: new", x.digest(), hashOf(values));
    CHECK.same("promise 29: again", x.digest(), hashOf(values));
  }

  private static void digestOfAll() {
    ShapedRows x = new ShapedRows();
    x.addNumber(1, 5);
    x.addCopy(0, 1, -1);
    for (int reader = 0; reader < 4; reader++) {
      x.hold(reader, 1 + reader / 3);
    }
    x.retire(1);
    x.insertBy(1);
    x.write(0, 1, 1, 8);
    x.insert();
    x.write(1, 2, 0, 5);
    Check.type(x, "n;");
    long[] values = {
      // count(0) to count(9)
      3, 1, 2, 1, 0, 0, 2, 2, 1, 6,
      // the shapes 0, 1 and 2, each with its columns
      0, 0, 0, 0, 1, 0,
      1, 1, 1, 3, 0, 2, 1, 1, 0,
      2, 2, 1, 1, 0, 3, 1, 1, 0, 0, 2, 1,
      // the row 0, by the shapes 1 and 2
      1, 1, 1, 0, 8, 16, 8, 0, 8, 8, 0,
      // the row 1, by the shapes 1 and 2
      2, 2, 0, 0, 5, 5, 0, 1, 0, 5, 0,
      // readers, toGo, find, share, buffer
      1, 1, 1, 2, 1, 2, Double.doubleToLongBits(0.5), 2, 'n', ';',
    };
    CHECK.same("promise 29: all", x.digest(), hashOf(values));
  }

  /** Every share that there can be: objects that differ in it alone do not come about. */
  private static void digestOfShares() {
    for (int all = 1; all <= 12; all++) {
      for (int fresh = 0; fresh <= all; fresh++) {
        ShapedRows x = new ShapedRows();
        Model y = new Model();
        x.addNumber(0, 1);
        y.addNumber(0, 1);
        for (int row = 0; row < all; row++) {
          x.insertBy(row < fresh ? 1 : 0);
          y.insertBy(row < fresh ? 1 : 0);
        }
        CHECK.sameDouble("promise 28: share", x.freshShare(), (double) fresh / all);
        CHECK.same("promise 29: " + fresh + " of " + all, x.digest(), y.digest());
      }
    }
  }

  private static long hashOf(long[] values) {
    long hash = 2699;
    for (long value : values) {
      hash = 31 * hash + value;
    }
    return hash;
  }
}
