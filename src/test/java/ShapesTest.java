/** Promises 1 to 5: a new object, and the changes by which shapes come. */
public final class ShapesTest {
  private static final Check CHECK = new Check();

  private ShapesTest() {}

  public static void main(String[] args) {
    newObject();
    addNumber();
    addNumberRefused();
    addCopy();
    addSum();
    addCopyRefused();
    drop();
    dropRefused();
    rename();
    renameRefused();
    twelveShapes();
    columnsStayTheSame();
    CHECK.end("ShapesTest");
  }

  private static void newObject() {
    ShapedRows x = new ShapedRows();
    long[] counts = {1, 0, 0, 0, 0, 0, 0, 0, 0, 0};
    for (int what = 0; what < counts.length; what++) {
      CHECK.same("promise 1: count(" + what + ")", x.count(what), counts[what]);
    }
    CHECK.same("promise 1: columns", x.shape(0, 0), 0);
    CHECK.same("promise 1: change", x.shape(0, 1), 0);
    CHECK.same("promise 1: readers", x.shape(0, 3), 4);
    CHECK.same("promise 1: length", x.clearBuffer(), 0);
    CHECK.same("promise 1: NONE", ShapedRows.NONE, -1);
  }

  private static void addNumber() {
    ShapedRows x = new ShapedRows();
    x.insert();
    CHECK.same("promise 2: first", x.addNumber(3, 0), 1);
    CHECK.same("promise 2: second", x.addNumber(7, 99), 2);
    CHECK.same("promise 2: third", x.addNumber(0, 41), 3);
    CHECK.same("promise 2: undoable", x.count(9), 4);
    CHECK.same("promise 2: change", x.shape(3, 1), 1);
    CHECK.same("promise 2: 0", x.read(0, 3, 3), 0);
    CHECK.same("promise 2: 99", x.read(0, 3, 7), 99);
    CHECK.same("promise 2: 41", x.read(0, 3, 0), 41);
    int[] letters = {3, 7, 0, ShapedRows.NONE};
    for (int place = 0; place < letters.length; place++) {
      CHECK.same("promise 2: place " + place, x.column(3, place, 0), letters[place]);
    }
    CHECK.same("promise 2: the one ahead keeps its columns", x.shape(2, 5), 1 << 3 | 1 << 7);
  }

  private static void addNumberRefused() {
    ShapedRows x = new ShapedRows();
    x.addNumber(0, 1);
    CHECK.badArgument("promise 2: letter -1", x, () -> x.addNumber(-1, 0));
    CHECK.badArgument("promise 2: letter 8", x, () -> x.addNumber(8, 0));
    CHECK.badArgument("promise 2: number -1", x, () -> x.addNumber(1, -1));
    CHECK.badArgument("promise 2: number 100", x, () -> x.addNumber(1, 100));
    CHECK.badArgument("promise 2: first named", x, () -> x.addNumber(0, 100));
    CHECK.badArgument(
        "promise 2: extremes", x, () -> x.addNumber(Integer.MIN_VALUE, Integer.MAX_VALUE));
    CHECK.badState("promise 2: taken", x, () -> x.addNumber(0, 5));
  }

  private static void addCopy() {
    ShapedRows x = new ShapedRows();
    x.addNumber(0, 5);
    x.insert();
    x.write(0, 1, 0, 1234);
    CHECK.same("promise 3: copy", x.addCopy(1, 0, ShapedRows.NONE), 2);
    CHECK.same("promise 3: change", x.shape(2, 1), 2);
    CHECK.same("promise 3: value", x.read(0, 2, 1), 1234);
    CHECK.same("promise 3: behind the others", x.column(2, 1, 0), 1);
    CHECK.same("promise 3: undoable", x.count(9), 4);
    x.rename(0, 5);
    CHECK.same("promise 3: copy of a copy", x.addCopy(0, 1, -1), 4);
    CHECK.same("promise 3: through all", x.read(0, 4, 0), 1234);
  }

  private static void addSum() {
    ShapedRows x = new ShapedRows();
    x.addNumber(0, 5);
    x.addNumber(1, 7);
    x.insert();
    x.write(0, 2, 0, 30);
    x.write(0, 2, 1, 40);
    CHECK.same("promise 3: sum", x.addCopy(2, 0, 1), 3);
    CHECK.same("promise 3: change of a sum", x.shape(3, 1), 3);
    CHECK.same("promise 3: sum read", x.read(0, 3, 2), 70);
    CHECK.same("promise 3: twice the same", x.addCopy(3, 1, 1), 4);
    CHECK.same("promise 3: twice read", x.read(0, 4, 3), 80);
    x.write(0, 2, 0, 99959);
    CHECK.same("promise 3: just in range", x.read(0, 4, 2), 99999);
    x.write(0, 2, 0, 99960);
    CHECK.same("promise 3: capped", x.read(0, 4, 2), 99999);
    x.write(0, 2, 1, 99999);
    CHECK.same("promise 3: capped twice the same", x.read(0, 4, 3), 99999);
  }

  private static void addCopyRefused() {
    ShapedRows x = new ShapedRows();
    x.addNumber(0, 1);
    CHECK.badArgument("promise 3: letter -1", x, () -> x.addCopy(-1, 0, 0));
    CHECK.badArgument("promise 3: letter 8", x, () -> x.addCopy(8, 0, 0));
    CHECK.badArgument("promise 3: of -1", x, () -> x.addCopy(1, -1, 0));
    CHECK.badArgument("promise 3: of 8", x, () -> x.addCopy(1, 8, 0));
    CHECK.badArgument("promise 3: with -2", x, () -> x.addCopy(1, 0, -2));
    CHECK.badArgument("promise 3: with 8", x, () -> x.addCopy(1, 0, 8));
    CHECK.badArgument("promise 3: first named", x, () -> x.addCopy(0, 0, 8));
    CHECK.badState("promise 3: taken", x, () -> x.addCopy(0, 0, -1));
    CHECK.badState("promise 3: of is missing", x, () -> x.addCopy(1, 2, -1));
    CHECK.badState("promise 3: of itself", x, () -> x.addCopy(1, 1, -1));
    CHECK.badState("promise 3: with is missing", x, () -> x.addCopy(1, 0, 2));
    CHECK.badState("promise 3: of is missing in a sum", x, () -> x.addCopy(1, 2, 0));
    x.drop(0, 1);
    CHECK.badState("promise 3: of is dropped", x, () -> x.addCopy(1, 0, -1));
  }

  private static void drop() {
    ShapedRows x = new ShapedRows();
    x.addNumber(0, 1);
    x.addNumber(1, 2);
    x.addNumber(2, 3);
    CHECK.same("promise 4: drop", x.drop(1, 77), 4);
    CHECK.same("promise 4: change", x.shape(4, 1), 4);
    CHECK.same("promise 4: letters", x.shape(4, 5), 5);
    CHECK.same("promise 4: first place", x.column(4, 0, 0), 0);
    CHECK.same("promise 4: gap closed", x.column(4, 1, 0), 2);
    CHECK.same("promise 4: no more", x.column(4, 2, 0), ShapedRows.NONE);
    CHECK.same("promise 4: undoable", x.count(9), 4);
    x.insert();
    x.write(0, 4, 0, 10);
    x.write(0, 4, 2, 20);
    CHECK.same("promise 4: number of the drop", x.read(0, 3, 1), 77);
    CHECK.same("promise 4: others stay", x.read(0, 3, 0) + x.read(0, 3, 2), 30);
    CHECK.same("promise 4: at its place", x.column(3, 1, 0), 1);
    CHECK.same("promise 4: last one", x.drop(2, 0), 5);
    CHECK.same("promise 4: only one", x.drop(0, 99), 6);
    CHECK.same("promise 4: empty shape", x.shape(6, 0), 0);
  }

  private static void dropRefused() {
    ShapedRows x = new ShapedRows();
    x.addNumber(0, 1);
    CHECK.badArgument("promise 4: letter -1", x, () -> x.drop(-1, 0));
    CHECK.badArgument("promise 4: letter 8", x, () -> x.drop(8, 0));
    CHECK.badArgument("promise 4: number -1", x, () -> x.drop(0, -1));
    CHECK.badArgument("promise 4: number 100", x, () -> x.drop(0, 100));
    CHECK.badArgument("promise 4: first named", x, () -> x.drop(1, 100));
    CHECK.badState("promise 4: missing", x, () -> x.drop(1, 0));
    x.drop(0, 0);
    CHECK.badState("promise 4: dropped already", x, () -> x.drop(0, 0));
  }

  private static void rename() {
    ShapedRows x = new ShapedRows();
    x.addNumber(0, 1);
    x.addNumber(1, 2);
    x.insert();
    x.write(0, 2, 0, 500);
    CHECK.same("promise 5: rename", x.rename(0, 7), 3);
    CHECK.same("promise 5: change", x.shape(3, 1), 5);
    CHECK.same("promise 5: at its place", x.column(3, 0, 0), 7);
    CHECK.same("promise 5: the same column", x.column(3, 0, 1), 1);
    CHECK.same("promise 5: value", x.read(0, 3, 7), 500);
    CHECK.same("promise 5: former letter is gone", x.read(0, 3, 0), ShapedRows.NONE);
    CHECK.same("promise 5: older shape", x.read(0, 2, 0), 500);
    CHECK.same("promise 5: undoable", x.count(9), 5);
    CHECK.same("promise 5: letter is free again", x.rename(1, 0), 4);
    CHECK.same("promise 5: letters", x.shape(4, 5), 1 | 1 << 7);
  }

  private static void renameRefused() {
    ShapedRows x = new ShapedRows();
    x.addNumber(0, 1);
    x.addNumber(1, 1);
    CHECK.badArgument("promise 5: letter -1", x, () -> x.rename(-1, 0));
    CHECK.badArgument("promise 5: letter 8", x, () -> x.rename(8, 0));
    CHECK.badArgument("promise 5: other -1", x, () -> x.rename(0, -1));
    CHECK.badArgument("promise 5: other 8", x, () -> x.rename(0, 8));
    CHECK.badArgument("promise 5: first named", x, () -> x.rename(2, 8));
    CHECK.badState("promise 5: missing", x, () -> x.rename(2, 3));
    CHECK.badState("promise 5: missing and the same", x, () -> x.rename(2, 2));
    CHECK.badState("promise 5: the new one is taken", x, () -> x.rename(0, 1));
    CHECK.badState("promise 5: both are the same", x, () -> x.rename(0, 0));
  }

  private static void twelveShapes() {
    ShapedRows x = new ShapedRows();
    for (int letter = 0; letter < 8; letter++) {
      CHECK.same("shape " + (letter + 1), x.addNumber(letter, letter), letter + 1);
    }
    CHECK.same("eight columns", x.count(7), 8);
    CHECK.same("shape 9", x.drop(7, 1), 9);
    CHECK.same("shape 10", x.rename(6, 7), 10);
    CHECK.same("shape 11", x.addCopy(6, 0, 1), 11);
    CHECK.same("shapes", x.count(0), 12);
    CHECK.badArgument("promise 2: argument first", x, () -> x.addNumber(7, 100));
    CHECK.badState("promise 4: 12 shapes", x, () -> x.drop(0, 0));
    CHECK.same("undo", x.undo(), 5);
    CHECK.same("shape 11 again", x.drop(0, 0), 11);
    CHECK.badState("promise 2: 12 shapes", x, () -> x.addNumber(0, 0));
    CHECK.badState("promise 3: 12 shapes", x, () -> x.addCopy(0, 1, -1));
    CHECK.badState("promise 5: 12 shapes", x, () -> x.rename(1, 0));
  }

  private static void columnsStayTheSame() {
    ShapedRows x = new ShapedRows();
    x.addNumber(0, 1);
    x.rename(0, 1);
    x.addNumber(0, 9);
    x.drop(1, 4);
    x.addNumber(1, 8);
    CHECK.same("promise 20: renamed is the same", x.column(2, 0, 1), 1);
    CHECK.same("promise 20: letter added anew is another", x.column(5, 1, 1), 5);
    CHECK.same("promise 20: gone from the newest", x.column(3, 0, 2), ShapedRows.NONE);
    CHECK.same("promise 20: place there", x.column(3, 1, 2), 0);
    x.insert();
    x.write(0, 5, 1, 70);
    CHECK.same("the former column with this letter", x.read(0, 3, 1), 4);
    CHECK.same("the newer column with this letter", x.read(0, 5, 1), 70);
  }
}
