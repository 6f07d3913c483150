/** Promises 18 to 23: looks, which change nothing. */
public final class LooksTest {
  private static final Check CHECK = new Check();

  private LooksTest() {}

  public static void main(String[] args) {
    readByNewer();
    readByOlder();
    readThereAndBack();
    readRefused();
    readAs();
    column();
    shape();
    row();
    count();
    looksChangeNothing();
    CHECK.end("LooksTest");
  }

  private static void readByNewer() {
    ShapedRows x = new ShapedRows();
    x.addNumber(0, 5);
    x.insert();
    x.write(0, 1, 0, 100);
    x.addNumber(1, 7);
    x.addCopy(2, 0, -1);
    x.drop(0, 3);
    x.addCopy(0, 2, 1);
    x.rename(1, 7);
    CHECK.same("promise 18: its own", x.read(0, 1, 0), 100);
    CHECK.same("promise 18: added", x.read(0, 2, 1), 7);
    CHECK.same("promise 18: copy", x.read(0, 3, 2), 100);
    CHECK.same("promise 18: dropped", x.read(0, 4, 0), ShapedRows.NONE);
    CHECK.same("promise 18: copy stays", x.read(0, 4, 2), 100);
    CHECK.same("promise 18: sum of what it has by then", x.read(0, 5, 0), 107);
    CHECK.same("promise 18: renamed", x.read(0, 6, 7), 7);
    CHECK.same("promise 18: former letter", x.read(0, 6, 1), ShapedRows.NONE);
    CHECK.same("promise 18: by the shape 0", x.read(0, 0, 0), ShapedRows.NONE);
  }

  private static void readByOlder() {
    ShapedRows x = new ShapedRows();
    x.addNumber(0, 5);
    x.addNumber(1, 6);
    x.drop(0, 33);
    x.rename(1, 0);
    x.addCopy(1, 0, 0);
    x.insert();
    x.write(0, 5, 0, 11);
    x.write(0, 5, 1, 12);
    CHECK.same("promise 18: own", x.read(0, 5, 1), 12);
    CHECK.same("promise 18: added one is gone", x.read(0, 4, 1), ShapedRows.NONE);
    CHECK.same("promise 18: renamed backwards", x.read(0, 3, 1), 11);
    CHECK.same("promise 18: number of the drop", x.read(0, 2, 0), 33);
    CHECK.same("promise 18: same column", x.read(0, 2, 1), 11);
    CHECK.same("promise 18: further back", x.read(0, 1, 0), 33);
  }

  /** A rewrite leaves nothing behind of what a row had before. */
  private static void readThereAndBack() {
    ShapedRows x = new ShapedRows();
    x.addNumber(0, 5);
    x.insert();
    x.write(0, 1, 0, 400);
    x.drop(0, 33);
    x.goOn(1);
    CHECK.same("promise 18: after a drop", x.read(0, 1, 0), 33);
    x.addNumber(1, 8);
    x.write(0, 3, 1, 500);
    CHECK.same("promise 18: written", x.read(0, 3, 1), 500);
    x.addCopy(2, 1, 1);
    CHECK.same("promise 18: from what was written", x.read(0, 4, 2), 1000);
  }

  private static void readRefused() {
    ShapedRows x = new ShapedRows();
    x.addNumber(0, 5);
    x.insert();
    CHECK.badIndex("promise 18: row -1", x, () -> x.read(-1, 1, 0));
    CHECK.badIndex("promise 18: row 1", x, () -> x.read(1, 1, 0));
    CHECK.badIndex("promise 18: shape -1", x, () -> x.read(0, -1, 0));
    CHECK.badIndex("promise 18: shape 2", x, () -> x.read(0, 2, 0));
    CHECK.badIndex("promise 18: index first", x, () -> x.read(0, 2, 8));
    CHECK.badArgument("promise 18: letter -1", x, () -> x.read(0, 1, -1));
    CHECK.badArgument("promise 18: letter 8", x, () -> x.read(0, 1, 8));
    CHECK.same("promise 18: no such letter", x.read(0, 1, 7), ShapedRows.NONE);
    Check.holdAll(x, 1);
    x.retire(1);
    CHECK.badIndex("promise 18: retired", x, () -> x.read(0, 0, 0));
  }

  private static void readAs() {
    ShapedRows x = new ShapedRows();
    x.addNumber(0, 5);
    x.addNumber(1, 6);
    x.rename(0, 2);
    x.insertBy(0);
    x.insert();
    x.hold(1, 2);
    x.hold(3, 3);
    CHECK.same("promise 19: shape 0", x.readAs(0, 0, 0), ShapedRows.NONE);
    CHECK.same("promise 19: shape 2", x.readAs(1, 0, 0), 5);
    CHECK.same("promise 19: shape 3", x.readAs(3, 0, 2), 5);
    CHECK.same("promise 19: shape 3, former letter", x.readAs(3, 0, 0), ShapedRows.NONE);
    CHECK.same("promise 19: own", x.readAs(3, 1, 1), 0);
    CHECK.badIndex("promise 19: reader -1", x, () -> x.readAs(-1, 0, 0));
    CHECK.badIndex("promise 19: reader 4", x, () -> x.readAs(4, 0, 0));
    CHECK.badIndex("promise 19: row -1", x, () -> x.readAs(0, -1, 0));
    CHECK.badIndex("promise 19: row 2", x, () -> x.readAs(0, 2, 0));
    CHECK.badIndex("promise 19: index first", x, () -> x.readAs(4, 0, 8));
    CHECK.badArgument("promise 19: letter -1", x, () -> x.readAs(0, 0, -1));
    CHECK.badArgument("promise 19: letter 8", x, () -> x.readAs(0, 0, 8));
  }

  private static void column() {
    ShapedRows x = new ShapedRows();
    x.addNumber(3, 5);
    x.addNumber(1, 6);
    x.addNumber(0, 6);
    x.rename(1, 7);
    x.drop(3, 9);
    long[][] due = {{3, 1, -1}, {1, 2, 0}, {0, 3, 1}, {-1, -1, -1}};
    for (int place = 0; place < due.length; place++) {
      for (int what = 0; what < 3; what++) {
        CHECK.same("promise 20: " + place + " " + what, x.column(3, place, what), due[place][what]);
      }
    }
    CHECK.same("promise 20: renamed", x.column(4, 1, 0), 7);
    CHECK.same("promise 20: the first shape with it", x.column(5, 0, 1), 2);
    CHECK.same("promise 20: behind all", x.column(0, 0, 0), ShapedRows.NONE);
    CHECK.same("promise 20: far behind", x.column(5, Integer.MAX_VALUE, 0), ShapedRows.NONE);
    CHECK.same("promise 20: the next shape's", x.column(2, 8, 0), ShapedRows.NONE);
    CHECK.badIndex("promise 20: shape -1", x, () -> x.column(-1, 0, 0));
    CHECK.badIndex("promise 20: shape 6", x, () -> x.column(6, 0, 0));
    CHECK.badIndex("promise 20: index first", x, () -> x.column(6, -1, 3));
    CHECK.badArgument("promise 20: place -1", x, () -> x.column(5, -1, 0));
    CHECK.badArgument("promise 20: what -1", x, () -> x.column(5, 0, -1));
    CHECK.badArgument("promise 20: what 3", x, () -> x.column(5, 0, 3));
    CHECK.badArgument("promise 20: what 3 behind all", x, () -> x.column(5, 9, 3));
    Check.holdAll(x, 5);
    x.retire(5);
    CHECK.same("promise 20: retired", x.column(3, 0, 0), 3);
  }

  private static void shape() {
    ShapedRows x = new ShapedRows();
    x.addNumber(7, 5);
    x.addCopy(1, 7, 7);
    x.insertBy(1);
    x.insertBy(1);
    x.insertBy(2);
    x.hold(0, 2);
    long[][] due = {{0, 0, 0, 3, 0, 0}, {1, 1, 2, 0, 0, 128}, {2, 3, 1, 1, 0, 130}};
    for (int shape = 0; shape < due.length; shape++) {
      for (int what = 0; what < 6; what++) {
        CHECK.same("promise 21: " + shape + " " + what, x.shape(shape, what), due[shape][what]);
      }
    }
    CHECK.badIndex("promise 21: -1", x, () -> x.shape(-1, 0));
    CHECK.badIndex("promise 21: 3", x, () -> x.shape(3, 0));
    CHECK.badIndex("promise 21: index first", x, () -> x.shape(3, 6));
    CHECK.badArgument("promise 21: what -1", x, () -> x.shape(0, -1));
    CHECK.badArgument("promise 21: what 6", x, () -> x.shape(0, 6));
    Check.holdAll(x, 1);
    x.retire(1);
    CHECK.same("promise 21: retired", x.shape(0, 4), 1);
    CHECK.same("promise 21: change of a retired one", x.shape(0, 1), 0);
    CHECK.same("promise 21: the mark is not", x.shape(1, 4), 0);
  }

  private static void row() {
    ShapedRows x = new ShapedRows();
    x.addNumber(0, 5);
    x.addNumber(1, 6);
    x.insertBy(1);
    x.write(0, 1, 0, 300);
    x.addCopy(2, 0, 1);
    x.drop(0, 0);
    long[] due = {1, 1, 3, 0, 300, 6 + 306};
    for (int what = 0; what < 6; what++) {
      CHECK.same("promise 22: " + what, x.row(0, what), due[what]);
    }
    x.goOn(1);
    long[] then = {4, 2, 0, 1, 312, 312};
    for (int what = 0; what < 6; what++) {
      CHECK.same("promise 22: rewritten, " + what, x.row(0, what), then[what]);
    }
    CHECK.badIndex("promise 22: -1", x, () -> x.row(-1, 0));
    CHECK.badIndex("promise 22: 1", x, () -> x.row(1, 0));
    CHECK.badIndex("promise 22: index first", x, () -> x.row(1, 6));
    CHECK.badArgument("promise 22: what -1", x, () -> x.row(0, -1));
    CHECK.badArgument("promise 22: what 6", x, () -> x.row(0, 6));
  }

  private static void count() {
    ShapedRows x = new ShapedRows();
    x.addNumber(0, 5);
    x.addNumber(1, 6);
    x.addNumber(2, 6);
    Check.holdAll(x, 2);
    x.insertBy(1);
    x.insertBy(2);
    x.insert();
    x.retire(1);
    x.write(0, 2, 1, 9);
    x.write(0, 2, 1, 8);
    x.insertBy(1);
    x.goOn(2);
    long[] due = {4, 1, 4, 1, 2, 3, 2, 3, 1, 6};
    for (int what = 0; what < due.length; what++) {
      CHECK.same("promise 23: " + what, x.count(what), due[what]);
    }
    x.goOn(2);
    CHECK.same("promise 23: a reader holds the oldest", x.count(8), 2);
    Check.holdAll(x, 3);
    CHECK.same("promise 23: all are new", x.count(8), 3);
    CHECK.same("promise 23: none is older", x.count(3), 0);
    CHECK.badArgument("promise 23: -1", x, () -> x.count(-1));
    CHECK.badArgument("promise 23: 10", x, () -> x.count(10));
  }

  private static void looksChangeNothing() {
    ShapedRows x = new ShapedRows();
    Check.run(x, "+a=5;+b=6;n;+c:a+b;n;-a=9");
    Check.type(x, "n;");
    long before = x.digest();
    x.read(0, 1, 0);
    x.readAs(0, 0, 0);
    x.column(1, 0, 1);
    x.shape(1, 2);
    x.row(0, 5);
    x.count(8);
    x.lost(0, 1);
    x.against(0, 1, 0);
    x.toGo();
    x.find(1, 0, 5);
    x.freshShare();
    CHECK.same("nothing is changed by looks", x.digest(), before);
  }
}
