/** Promises 6 to 12: rows, writing, the cursor, readers and retiring. */
public final class RowsTest {
  private static final Check CHECK = new Check();

  private RowsTest() {}

  public static void main(String[] args) {
    insert();
    insertBy();
    insertByRefused();
    writeToOwnAndOlder();
    writeByNewerRewrites();
    writeByOlder();
    writeRefused();
    writeRefusedOfLast();
    writeOutOfRange();
    remove();
    removeMovesCursor();
    goOn();
    goOnOutOfRange();
    goOnAfterRemoval();
    hold();
    retire();
    retireRefused();
    CHECK.end("RowsTest");
  }

  private static void insert() {
    ShapedRows x = new ShapedRows();
    x.addNumber(0, 55);
    for (int row = 0; row < 12; row++) {
      CHECK.same("promise 6: number", x.insert(), row);
    }
    CHECK.same("promise 6: newest shape", x.row(11, 0), 1);
    CHECK.same("promise 6: value 0", x.read(11, 1, 0), 0);
    CHECK.same("promise 6: rows", x.count(2), 12);
    CHECK.same("promise 6: undoable", x.count(9), 6);
    CHECK.badState("promise 6: 12 rows", x, x::insert);
    CHECK.badState("promise 7: 12 rows", x, () -> x.insertBy(0));
    CHECK.badIndex("promise 7: first named", x, () -> x.insertBy(2));
  }

  private static void insertBy() {
    ShapedRows x = new ShapedRows();
    x.addNumber(0, 55);
    x.addCopy(1, 0, -1);
    CHECK.same("promise 7: by the first", x.insertBy(0), 0);
    CHECK.same("promise 7: by the second", x.insertBy(1), 1);
    CHECK.same("promise 7: by the newest", x.insertBy(2), 2);
    CHECK.same("promise 7: shape", x.row(1, 0), 1);
    CHECK.same("promise 7: added number", x.read(0, 2, 1), 55);
    CHECK.same("promise 7: own value is 0", x.read(1, 2, 1), 0);
    CHECK.same("promise 7: undoable", x.count(9), 5);
    x.write(2, 1, 0, 9);
    x.addNumber(2, 1);
    x.goOn(3);
    x.remove(2);
    CHECK.same("promise 7: a number used again", x.insertBy(1), 2);
    CHECK.same("promise 7: values are 0 there", x.read(2, 1, 0), 0);
    CHECK.same("promise 7: it was not rewritten", x.row(2, 3), 0);
    CHECK.same("promise 7: it has its own shape", x.row(2, 0), 1);
  }

  private static void insertByRefused() {
    ShapedRows x = new ShapedRows();
    x.addNumber(0, 55);
    CHECK.badIndex("promise 7: -1", x, () -> x.insertBy(-1));
    CHECK.badIndex("promise 7: 2", x, () -> x.insertBy(2));
    CHECK.badIndex("promise 7: least", x, () -> x.insertBy(Integer.MIN_VALUE));
    CHECK.badIndex("promise 7: most", x, () -> x.insertBy(Integer.MAX_VALUE));
    Check.holdAll(x, 1);
    x.retire(1);
    CHECK.badIndex("promise 7: retired", x, () -> x.insertBy(0));
    CHECK.same("promise 7: the mark itself", x.insertBy(1), 0);
  }

  private static void writeToOwnAndOlder() {
    ShapedRows x = new ShapedRows();
    x.addNumber(0, 5);
    x.insert();
    x.addNumber(1, 6);
    CHECK.same("promise 8: own shape", x.write(0, 1, 0, 99999), 1);
    CHECK.same("promise 8: value", x.read(0, 1, 0), 99999);
    CHECK.same("promise 8: has the column: not rewritten", x.write(0, 2, 0, 3), 1);
    CHECK.same("promise 8: written all the same", x.read(0, 1, 0), 3);
    CHECK.same("promise 8: none rewritten", x.count(5) + x.row(0, 3), 0);
    CHECK.same("promise 8: writes", x.count(6), 2);
    CHECK.same("promise 8: undoable", x.count(9), 5);
    x.rename(0, 4);
    CHECK.same("promise 8: another letter, the same column", x.write(0, 3, 4, 8), 1);
    CHECK.same("promise 8: read by the former letter", x.read(0, 1, 0), 8);
  }

  private static void writeByNewerRewrites() {
    ShapedRows x = new ShapedRows();
    x.addNumber(0, 5);
    x.insert();
    x.write(0, 1, 0, 21);
    x.addCopy(1, 0, 0);
    x.addNumber(2, 7);
    CHECK.same("promise 8: rewritten in the writer's", x.write(0, 2, 1, 1), 2);
    CHECK.same("promise 8: shape then", x.row(0, 0), 2);
    CHECK.same("promise 8: own column kept", x.read(0, 2, 0), 21);
    CHECK.same("promise 8: value written", x.read(0, 2, 1), 1);
    CHECK.same("promise 8: rewritten once", x.row(0, 3), 1);
    CHECK.same("promise 8: counted", x.count(5), 1);
    CHECK.same("promise 8: written once more", x.write(0, 3, 2, 0), 3);
    CHECK.same("promise 8: rewritten twice", x.row(0, 3), 2);
    CHECK.same("promise 8: sum", x.row(0, 4), 22);
  }

  private static void writeByOlder() {
    ShapedRows x = new ShapedRows();
    x.addNumber(0, 5);
    x.addNumber(1, 6);
    x.rename(0, 2);
    x.insert();
    CHECK.same("promise 8: older writer", x.write(0, 1, 0, 44), 3);
    CHECK.same("promise 8: same column", x.read(0, 3, 2), 44);
    CHECK.same("promise 8: not rewritten", x.count(5), 0);
  }

  private static void writeRefused() {
    ShapedRows x = new ShapedRows();
    x.addNumber(0, 5);
    x.addNumber(1, 5);
    x.drop(0, 6);
    x.addNumber(0, 7);
    x.insert();
    CHECK.badState("promise 8: the column is gone", x, () -> x.write(0, 1, 0, 1));
    CHECK.badState("promise 8: gone, by another shape", x, () -> x.write(0, 2, 0, 1));
    CHECK.badState("promise 8: no such letter", x, () -> x.write(0, 0, 0, 1));
    CHECK.badState("promise 8: no such letter in the newest", x, () -> x.write(0, 4, 7, 1));
    CHECK.same("promise 8: the new one with this letter", x.write(0, 4, 0, 1), 4);
    CHECK.same("promise 8: not the former one", x.read(0, 1, 0), 6);
  }

  /** The last column leaves nothing behind at its place. */
  private static void writeRefusedOfLast() {
    ShapedRows x = new ShapedRows();
    for (int letter = 0; letter < 8; letter++) {
      x.addNumber(letter, 5);
    }
    x.drop(7, 6);
    x.insert();
    CHECK.badState("promise 8: the last column is gone", x, () -> x.write(0, 8, 7, 1));
    CHECK.same("promise 25: the last column is gone", x.against(0, 8, 7), 2);
    CHECK.same("promise 20: the last column is gone", x.column(8, 7, 2), ShapedRows.NONE);
    CHECK.same("promise 8: the one ahead of it is there", x.write(0, 8, 6, 1), 9);
  }

  private static void writeOutOfRange() {
    ShapedRows x = new ShapedRows();
    x.addNumber(0, 5);
    x.insert();
    CHECK.badIndex("promise 8: row -1", x, () -> x.write(-1, 1, 0, 0));
    CHECK.badIndex("promise 8: row 1", x, () -> x.write(1, 1, 0, 0));
    CHECK.badIndex("promise 8: shape -1", x, () -> x.write(0, -1, 0, 0));
    CHECK.badIndex("promise 8: shape 2", x, () -> x.write(0, 2, 0, 0));
    CHECK.badIndex("promise 8: index first", x, () -> x.write(0, 2, 8, -1));
    CHECK.badArgument("promise 8: letter -1", x, () -> x.write(0, 1, -1, 0));
    CHECK.badArgument("promise 8: letter 8", x, () -> x.write(0, 1, 8, 0));
    CHECK.badArgument("promise 8: value -1", x, () -> x.write(0, 1, 0, -1));
    CHECK.badArgument("promise 8: value 100000", x, () -> x.write(0, 1, 0, 100000));
    CHECK.badArgument("promise 8: argument ahead of state", x, () -> x.write(0, 1, 1, 100000));
    Check.holdAll(x, 1);
    x.retire(1);
    CHECK.badIndex("promise 8: retired", x, () -> x.write(0, 0, 0, 0));
  }

  private static void remove() {
    ShapedRows x = new ShapedRows();
    x.addNumber(0, 5);
    for (int row = 0; row < 3; row++) {
      x.insertBy(row == 1 ? 0 : 1);
    }
    x.write(2, 1, 0, 300);
    x.write(1, 1, 0, 200);
    CHECK.same("promise 9: left", x.remove(0), 2);
    CHECK.same("promise 9: numbers are less", x.read(0, 1, 0), 200);
    CHECK.same("promise 9: the last one too", x.read(1, 1, 0), 300);
    CHECK.same("promise 9: rewrites go with it", x.row(0, 3), 1);
    CHECK.same("promise 9: and the others'", x.row(1, 3), 0);
    CHECK.same("promise 9: undoable", x.count(9), 6);
    CHECK.same("promise 9: last", x.remove(1), 1);
    CHECK.same("promise 9: first stays", x.read(0, 1, 0), 200);
    CHECK.badIndex("promise 9: -1", x, () -> x.remove(-1));
    CHECK.badIndex("promise 9: 1", x, () -> x.remove(1));
    CHECK.same("promise 9: only one", x.remove(0), 0);
    CHECK.badIndex("promise 9: none is left", x, () -> x.remove(0));
    CHECK.same("promise 9: the count stays", x.count(5), 1);
  }

  private static void removeMovesCursor() {
    ShapedRows x = rowsOfFirstShape(4);
    x.goOn(2);
    x.remove(3);
    CHECK.same("promise 9: behind the cursor", x.count(4), 2);
    x.remove(2);
    CHECK.same("promise 9: at the cursor", x.count(4), 2);
    x.remove(0);
    CHECK.same("promise 9: ahead of the cursor", x.count(4), 1);
    x.remove(0);
    CHECK.same("promise 9: the last row", x.count(4), 0);
  }

  private static void goOn() {
    ShapedRows x = new ShapedRows();
    CHECK.same("promise 10: no rows", x.goOn(12), 0);
    CHECK.same("promise 10: undoable", x.count(9), 1);
    CHECK.same("promise 10: cursor stays", x.count(4), 0);
    x.insert();
    x.insert();
    x.addNumber(0, 9);
    x.insert();
    CHECK.same("promise 10: one", x.goOn(1), 1);
    CHECK.same("promise 10: cursor", x.count(4), 1);
    CHECK.same("promise 10: row", x.row(0, 0), 1);
    CHECK.same("promise 10: value", x.row(0, 4), 9);
    CHECK.same("promise 10: only the older ones", x.goOn(2), 1);
    CHECK.same("promise 10: behind the last row", x.count(4), 3);
    CHECK.same("promise 10: rewritten", x.count(5), 2);
    CHECK.same("promise 10: none", x.goOn(1), 0);
    CHECK.same("promise 10: begins anew", x.count(4), 1);
    x.addNumber(1, 9);
    CHECK.same("promise 10: twelve", x.goOn(12), 3);
    CHECK.same("promise 10: went round", x.count(4), 1);
    CHECK.same("promise 10: rewritten twice", x.row(0, 3), 2);
  }

  private static void goOnOutOfRange() {
    ShapedRows x = rowsOfFirstShape(2);
    CHECK.badArgument("promise 10: 0", x, () -> x.goOn(0));
    CHECK.badArgument("promise 10: 13", x, () -> x.goOn(13));
    CHECK.badArgument("promise 10: -1", x, () -> x.goOn(-1));
    CHECK.badArgument("promise 10: most", x, () -> x.goOn(Integer.MAX_VALUE));
  }

  private static void goOnAfterRemoval() {
    ShapedRows x = rowsOfFirstShape(3);
    x.goOn(2);
    x.remove(2);
    CHECK.same("promise 10: not at a row", x.count(4), 2);
    x.insertBy(0);
    CHECK.same("promise 10: at a new row", x.goOn(1), 1);
    CHECK.same("promise 10: the new one", x.row(2, 3), 1);
    CHECK.same("promise 10: cursor behind it", x.count(4), 3);
  }

  private static void hold() {
    ShapedRows x = new ShapedRows();
    x.addNumber(0, 5);
    x.addNumber(1, 5);
    CHECK.same("promise 11: first", x.hold(3, 2), 0);
    CHECK.same("promise 11: second", x.hold(3, 1), 2);
    CHECK.same("promise 11: same again", x.hold(3, 1), 1);
    CHECK.same("promise 11: readers", x.shape(1, 3), 1);
    CHECK.same("promise 11: undoable", x.count(9), 5);
    CHECK.badIndex("promise 11: reader -1", x, () -> x.hold(-1, 0));
    CHECK.badIndex("promise 11: reader 4", x, () -> x.hold(4, 0));
    CHECK.badIndex("promise 11: shape -1", x, () -> x.hold(0, -1));
    CHECK.badIndex("promise 11: shape 3", x, () -> x.hold(0, 3));
    Check.holdAll(x, 1);
    x.retire(1);
    CHECK.badIndex("promise 11: retired", x, () -> x.hold(0, 0));
    CHECK.same("promise 11: the mark", x.hold(0, 1), 1);
  }

  private static void retire() {
    ShapedRows x = new ShapedRows();
    x.addNumber(0, 5);
    x.addNumber(1, 5);
    CHECK.same("promise 12: the first one", x.retire(0), 3);
    CHECK.same("promise 12: undoable", x.count(9), 3);
    Check.holdAll(x, 2);
    x.insertBy(1);
    CHECK.same("promise 12: a row has it", x.retire(1), 2);
    CHECK.same("promise 12: mark", x.count(1), 1);
    CHECK.same("promise 12: retired", x.shape(0, 4), 1);
    CHECK.same("promise 12: not retired", x.shape(1, 4), 0);
    CHECK.badIndex("promise 12: below the mark", x, () -> x.retire(0));
    CHECK.same("promise 12: the mark again", x.retire(1), 2);
    CHECK.badState("promise 12: the row is older", x, () -> x.retire(2));
    x.goOn(1);
    CHECK.same("promise 12: rewritten", x.retire(2), 1);
    x.undo();
    CHECK.same("promise 12: undone", x.count(1), 1);
  }

  private static void retireRefused() {
    ShapedRows x = new ShapedRows();
    x.addNumber(0, 5);
    x.addNumber(1, 5);
    CHECK.badIndex("promise 12: -1", x, () -> x.retire(-1));
    CHECK.badIndex("promise 12: 3", x, () -> x.retire(3));
    for (int reader = 0; reader < 4; reader++) {
      CHECK.badState("promise 12: reader " + reader, x, () -> x.retire(1));
      x.hold(reader, 1 + reader % 2);
    }
    CHECK.badState("promise 12: two readers", x, () -> x.retire(2));
    for (int reader = 0; reader < 4; reader++) {
      Check.holdAll(x, 2);
      x.hold(reader, 1);
      CHECK.badState("promise 12: reader " + reader + " alone", x, () -> x.retire(2));
      CHECK.same("promise 23: reader " + reader + " alone", x.count(8), 1);
    }
    CHECK.same("promise 12: all hold", x.retire(1), 2);
    x.insertBy(1);
    x.insert();
    Check.holdAll(x, 2);
    CHECK.badState("promise 12: a row", x, () -> x.retire(2));
    x.remove(0);
    CHECK.same("promise 12: row removed", x.retire(2), 1);
  }

  private static ShapedRows rowsOfFirstShape(int rows) {
    ShapedRows x = new ShapedRows();
    x.addNumber(0, 5);
    for (int row = 0; row < rows; row++) {
      x.insertBy(0);
    }
    return x;
  }
}
