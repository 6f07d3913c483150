/** Promises 6 to 10, sentence by sentence, on both sides of each boundary. */
final class RowsEdges {
  private static final int A = Edges.A;
  private static final int B = Edges.B;
  private static final int C = Edges.C;
  private static final int H = Edges.H;

  private final Edges edges;

  RowsEdges(Edges edges) {
    this.edges = edges;
  }

  void all() {
    insert();
    insertBy();
    write();
    writeIsRefused();
    remove();
    goOn();
  }

  private void insert() {
    insertAddsByTheNewest();
    insertIsUndoable();
    insertReturns();
    insertTwelveRows();
  }

  private void insertBy() {
    insertByAddsByAShape();
    insertByIsUndoable();
    insertByShape();
    insertByReturns();
    insertByNoSuchShape();
    insertByRetired();
    insertByTwelveRows();
  }

  private void write() {
    writeWrites();
    writeIsUndoable();
    writeRow();
    writeShape();
    writeLetter();
    writeValue();
    writeReturns();
  }

  private void writeIsRefused() {
    writeNoSuchRowOrShape();
    writeRetired();
    writeOutOfRange();
    writeNoSuchLetter();
    writeColumnGone();
  }

  private void remove() {
    removeRemoves();
    removeMovesTheCursor();
    removeIsUndoable();
    removeRow();
    removeReturns();
    removeNoSuchRow();
  }

  private void goOn() {
    goOnGoesOn();
    goOnIsUndoable();
    goOnRows();
    goOnReturns();
    goOnOutOfRange();
  }

  // ---- promise 6

  private void insertAddsByTheNewest() {
    edges.about("Promise 6", "Adds a row, by the newest shape: all its values are 0.");
    ShapedRows x = edges.answers(0, States.EIGHT_COLUMNS, ShapedRows::insert);
    edges.same(8, x.row(0, 0));
    edges.same(8, x.row(0, 1));
    edges.same(0, x.row(0, 4));
    for (int letter = A; letter <= H; letter++) {
      edges.same(0, x.read(0, 8, letter));
    }
    edges.same(0, edges.answers(0, Edges.NEW, ShapedRows::insert).row(0, 1));
    ShapedRows again = edges.answers(0, usedBefore(), ShapedRows::insert);
    edges.same(0, again.row(0, 4));
    edges.same(0, again.row(0, 3));
    edges.same(2, again.row(0, 0));
  }

  private void insertIsUndoable() {
    edges.about("Promise 6", "Undoable.");
    edges.undoable(States.A_ROW, ShapedRows::insert);
    edges.undoable(States.FULL, ShapedRows::insert);
    edges.notUndoable(States.TWELVE_ROWS, ShapedRows::insert);
  }

  private void insertReturns() {
    edges.about("Promise 6", "Returns its number.");
    edges.answers(0, Edges.NEW, ShapedRows::insert);
    edges.answers(1, States.A_ROW, ShapedRows::insert);
    edges.answers(11, States.ELEVEN_ROWS, ShapedRows::insert);
  }

  private void insertTwelveRows() {
    edges.about("Promise 6", "Throws `IllegalStateException` if there are 12 rows");
    edges.same(12, edges.answers(11, States.ELEVEN_ROWS, ShapedRows::insert).count(2));
    edges.refused(Edges.STATE, States.TWELVE_ROWS, ShapedRows::insert);
    edges.answers(11, States.oneRemoved(States.TWELVE_ROWS), ShapedRows::insert);
  }

  // ---- promise 7

  private void insertByAddsByAShape() {
    edges.about("Promise 7", "Adds a row by a shape: all its values are 0.");
    for (int shape = 0; shape <= 8; shape++) {
      int by = shape;
      ShapedRows x = edges.answers(0, States.EIGHT_COLUMNS, y -> y.insertBy(by));
      edges.same(shape, x.row(0, 0));
      edges.same(shape, x.row(0, 1));
      edges.same(0, x.row(0, 4));
      edges.same(shape == 8 ? 0 : 17, x.read(0, 8, H));
      edges.same(shape == 0 ? 10 : 0, x.read(0, 8, A));
    }
    ShapedRows again = edges.answers(0, usedBefore(), y -> y.insertBy(1));
    edges.same(0, again.row(0, 4));
    edges.same(0, again.row(0, 3));
    edges.same(1, again.row(0, 0));
  }

  private void insertByIsUndoable() {
    edges.about("Promise 7", "Undoable.");
    edges.undoable(States.A_ROW, x -> x.insertBy(1));
    edges.undoable(States.FULL, x -> x.insertBy(2));
    edges.notUndoable(States.A_ROW, x -> x.insertBy(3));
  }

  private void insertByShape() {
    edges.about("Promise 7", "`shape`: the number of a shape that is not retired");
    edges.refused(Edges.INDEX, States.TWO_COLUMNS, x -> x.insertBy(-1));
    edges.answers(0, States.TWO_COLUMNS, x -> x.insertBy(0));
    edges.answers(0, States.TWO_COLUMNS, x -> x.insertBy(2));
    edges.refused(Edges.INDEX, States.TWO_COLUMNS, x -> x.insertBy(3));
  }

  private void insertByReturns() {
    edges.about("Promise 7", "Returns its number.");
    edges.answers(0, Edges.NEW, x -> x.insertBy(0));
    edges.answers(1, States.A_ROW, x -> x.insertBy(0));
    edges.answers(11, States.ELEVEN_ROWS, x -> x.insertBy(0));
  }

  private void insertByNoSuchShape() {
    edges.about("Promise 7", "Throws `IndexOutOfBoundsException` if there is no such shape");
    edges.refused(Edges.INDEX, Edges.NEW, x -> x.insertBy(1));
    edges.refused(Edges.INDEX, Edges.NEW, x -> x.insertBy(Edges.LEAST));
    edges.refused(Edges.INDEX, Edges.NEW, x -> x.insertBy(Edges.MOST));
    edges.answers(0, States.TWELVE_SHAPES, x -> x.insertBy(11));
    edges.refused(Edges.INDEX, States.TWELVE_SHAPES, x -> x.insertBy(12));
    edges.refused(Edges.INDEX, States.undone(States.TWELVE_SHAPES), x -> x.insertBy(11));
  }

  private void insertByRetired() {
    edges.about("Promise 7", ", or it is retired");
    edges.refused(Edges.INDEX, States.RETIRED, x -> x.insertBy(0));
    edges.answers(1, States.RETIRED, x -> x.insertBy(1));
    edges.answers(1, States.RETIRED, x -> x.insertBy(2));
  }

  private void insertByTwelveRows() {
    edges.about("Promise 7", "Throws `IllegalStateException` if there are 12 rows");
    edges.answers(11, States.ELEVEN_ROWS, x -> x.insertBy(0));
    edges.refused(Edges.STATE, States.TWELVE_ROWS, x -> x.insertBy(0));
    edges.refused(Edges.STATE, States.TWELVE_ROWS, x -> x.insertBy(1));
    edges.answers(11, States.oneRemoved(States.TWELVE_ROWS), x -> x.insertBy(0));
  }

  // ---- promise 8

  private void writeWrites() {
    edges.about("Promise 8", "Writes a value.");
    ShapedRows x = edges.answers(2, States.A_ROW, y -> y.write(0, 2, A, 77));
    edges.same(77, x.read(0, 2, A));
    edges.same(400, x.read(0, 2, B));
    edges.same(3, x.count(6));
    edges.same(0, x.count(5));
    ShapedRows two = Edges.made(States.TWELVE_ROWS);
    two.write(5, 1, A, 77);
    for (int row = 0; row < 12; row++) {
      edges.same(row == 5 ? 77 : row + 1, two.read(row, 1, A));
    }
  }

  private void writeIsUndoable() {
    edges.about("Promise 8", "Undoable.");
    edges.undoable(States.A_ROW, x -> x.write(0, 2, A, 77));
    edges.undoable(States.A_ROW, x -> x.write(0, 2, A, 300));
    edges.undoable(rowOfShapeOne(), x -> x.write(0, 2, B, 77));
    edges.undoable(States.FULL, x -> x.write(1, 2, B, 77));
    edges.notUndoable(States.A_ROW, x -> x.write(0, 2, C, 77));
  }

  private void writeRow() {
    edges.about("Promise 8", "`row`: its number");
    edges.refused(Edges.INDEX, States.TWELVE_ROWS, x -> x.write(-1, 1, A, 5));
    edges.same(99, edges.answers(1, States.TWELVE_ROWS, x -> x.write(0, 1, A, 99)).read(0, 1, A));
    edges.same(99, edges.answers(1, States.TWELVE_ROWS, x -> x.write(11, 1, A, 99)).read(11, 1, A));
    edges.refused(Edges.INDEX, States.TWELVE_ROWS, x -> x.write(12, 1, A, 5));
  }

  private void writeShape() {
    edges.about("Promise 8", "`shape`: the shape of the writer, not retired");
    edges.refused(Edges.INDEX, States.A_ROW, x -> x.write(0, -1, A, 5));
    edges.refused(Edges.STATE, States.A_ROW, x -> x.write(0, 0, A, 5));
    edges.answers(2, States.A_ROW, x -> x.write(0, 1, A, 5));
    edges.answers(2, States.A_ROW, x -> x.write(0, 2, A, 5));
    edges.refused(Edges.INDEX, States.A_ROW, x -> x.write(0, 3, A, 5));
    edges.refused(Edges.INDEX, States.RETIRED, x -> x.write(0, 0, A, 5));
    edges.answers(2, States.RETIRED, x -> x.write(0, 1, A, 5));
  }

  private void writeLetter() {
    edges.about("Promise 8", "`letter`: 0 to 7, the letter of the column in this shape");
    Edges.Calls eight = x -> {
      States.EIGHT_COLUMNS.on(x);
      x.insert();
    };
    edges.refused(Edges.ARGUMENT, eight, x -> x.write(0, 8, -1, 5));
    edges.same(5, edges.answers(8, eight, x -> x.write(0, 8, 0, 5)).read(0, 8, 0));
    edges.same(5, edges.answers(8, eight, x -> x.write(0, 8, 7, 5)).read(0, 8, 7));
    edges.refused(Edges.ARGUMENT, eight, x -> x.write(0, 8, 8, 5));
    edges.refused(Edges.STATE, eight, x -> x.write(0, 7, 7, 5));
    Edges.Calls swapped = x -> {
      States.A_ROW.on(x);
      x.rename(A, C);
      x.rename(B, A);
    };
    edges.same(5, edges.answers(2, swapped, x -> x.write(0, 4, A, 5)).read(0, 2, B));
    edges.same(5, edges.answers(2, swapped, x -> x.write(0, 2, A, 5)).read(0, 2, A));
    edges.refused(Edges.STATE, swapped, x -> x.write(0, 4, B, 5));
  }

  private void writeValue() {
    edges.about("Promise 8", "`value`: 0 to 99999");
    edges.refused(Edges.ARGUMENT, States.A_ROW, x -> x.write(0, 2, A, -1));
    edges.same(0, edges.answers(2, States.A_ROW, x -> x.write(0, 2, A, 0)).read(0, 2, A));
    ShapedRows most = edges.answers(2, States.A_ROW, x -> x.write(0, 2, A, 99999));
    edges.same(99999, most.read(0, 2, A));
    edges.refused(Edges.ARGUMENT, States.A_ROW, x -> x.write(0, 2, A, 100000));
  }

  private void writeReturns() {
    edges.about("Promise 8", "Returns the shape of the row then.");
    edges.answers(1, rowOfShapeOne(), x -> x.write(0, 1, A, 5));
    edges.answers(1, rowOfShapeOne(), x -> x.write(0, 2, A, 5));
    ShapedRows x = edges.answers(2, rowOfShapeOne(), y -> y.write(0, 2, B, 5));
    edges.same(2, x.row(0, 0));
    edges.answers(2, States.A_ROW, y -> y.write(0, 1, A, 5));
  }

  private void writeNoSuchRowOrShape() {
    edges.about("Promise 8",
        "Throws `IndexOutOfBoundsException` if there is no such row or shape");
    edges.refused(Edges.INDEX, States.TWO_COLUMNS, x -> x.write(0, 2, A, 5));
    edges.answers(2, States.A_ROW, x -> x.write(0, 2, A, 5));
    edges.refused(Edges.INDEX, States.A_ROW, x -> x.write(1, 2, A, 5));
    edges.refused(Edges.INDEX, States.A_ROW, x -> x.write(Edges.LEAST, 2, A, 5));
    edges.refused(Edges.INDEX, States.A_ROW, x -> x.write(Edges.MOST, 2, A, 5));
    edges.refused(Edges.INDEX, States.A_ROW, x -> x.write(0, Edges.LEAST, A, 5));
    edges.refused(Edges.INDEX, States.A_ROW, x -> x.write(0, Edges.MOST, A, 5));
    edges.refused(Edges.INDEX, States.oneRemoved(States.A_ROW), x -> x.write(0, 2, A, 5));
  }

  private void writeRetired() {
    edges.about("Promise 8", ", or the shape is retired");
    Edges.Calls older = x -> {
      States.A_ROW.on(x);
      Check.holdAll(x, 2);
      x.retire(2);
    };
    edges.refused(Edges.INDEX, older, x -> x.write(0, 1, A, 5));
    edges.answers(2, older, x -> x.write(0, 2, A, 5));
    edges.answers(2, States.undone(older), x -> x.write(0, 1, A, 5));
  }

  private void writeOutOfRange() {
    edges.about("Promise 8",
        "Throws `IllegalArgumentException` if letter or value is out of range");
    edges.refused(Edges.ARGUMENT, States.A_ROW, x -> x.write(0, 2, Edges.LEAST, 5));
    edges.refused(Edges.ARGUMENT, States.A_ROW, x -> x.write(0, 2, Edges.MOST, 5));
    edges.refused(Edges.ARGUMENT, States.A_ROW, x -> x.write(0, 2, A, Edges.LEAST));
    edges.refused(Edges.ARGUMENT, States.A_ROW, x -> x.write(0, 2, A, Edges.MOST));
    edges.refused(Edges.ARGUMENT, rowOfShapeOne(), x -> x.write(0, 2, B, 100000));
    edges.answers(2, rowOfShapeOne(), x -> x.write(0, 2, B, 99999));
  }

  private void writeNoSuchLetter() {
    edges.about("Promise 8",
        "Throws `IllegalStateException` if the shape does not have this letter");
    edges.refused(Edges.STATE, States.A_ROW, x -> x.write(0, 2, C, 5));
    edges.refused(Edges.STATE, States.A_ROW, x -> x.write(0, 1, B, 5));
    edges.refused(Edges.STATE, States.A_ROW, x -> x.write(0, 0, A, 5));
    edges.refused(Edges.STATE, rowOfShapeOne(), x -> x.write(0, 2, C, 5));
    edges.answers(2, States.A_ROW, x -> x.write(0, 1, A, 5));
    edges.answers(2, States.A_ROW, x -> x.write(0, 2, B, 5));
  }

  private void writeColumnGone() {
    edges.about("Promise 8", ", or the write is refused");
    Edges.Calls gone = x -> {
      States.TWO_COLUMNS.on(x);
      x.drop(A, 9);
      x.insert();
      x.insertBy(2);
    };
    edges.refused(Edges.STATE, gone, x -> x.write(0, 1, A, 5));
    edges.refused(Edges.STATE, gone, x -> x.write(0, 2, A, 5));
    edges.answers(3, gone, x -> x.write(0, 2, B, 5));
    edges.answers(2, gone, x -> x.write(1, 2, A, 5));
    edges.answers(2, gone, x -> x.write(1, 1, A, 5));
  }

  // ---- promise 9

  private void removeRemoves() {
    edges.about("Promise 9", "Removes a row.");
    for (int row = 0; row < 12; row++) {
      int gone = row;
      ShapedRows x = edges.answers(11, States.TWELVE_ROWS, y -> y.remove(gone));
      for (int left = 0; left < 11; left++) {
        edges.same(left < gone ? left + 1 : left + 2, x.read(left, 1, A));
      }
      edges.same(11, x.count(2));
    }
    ShapedRows x = Edges.made(States.FULL);
    x.remove(0);
    edges.same(3, x.row(1, 0));
    edges.same(1, x.row(1, 3));
    edges.same(700, x.read(1, 3, C));
  }

  private void removeMovesTheCursor() {
    edges.about("Promise 9", "If the cursor is at a greater number, its number becomes 1 less.");
    Edges.Calls atTwo = x -> {
      States.rows(x, 4);
      x.goOn(2);
    };
    edges.same(1, edges.answers(3, atTwo, x -> x.remove(0)).count(4));
    edges.same(1, edges.answers(3, atTwo, x -> x.remove(1)).count(4));
    edges.same(2, edges.answers(3, atTwo, x -> x.remove(2)).count(4));
    edges.same(2, edges.answers(3, atTwo, x -> x.remove(3)).count(4));
    Edges.Calls behindAll = x -> {
      States.rows(x, 4);
      x.goOn(4);
    };
    edges.same(3, edges.answers(3, behindAll, x -> x.remove(3)).count(4));
    edges.same(0, edges.answers(0, States.A_ROW, x -> x.remove(0)).count(4));
  }

  private void removeIsUndoable() {
    edges.about("Promise 9", "Undoable.");
    edges.undoable(States.A_ROW, x -> x.remove(0));
    edges.undoable(States.FULL, x -> x.remove(0));
    edges.notUndoable(States.A_ROW, x -> x.remove(1));
  }

  private void removeRow() {
    edges.about("Promise 9", "`row`: its number");
    edges.refused(Edges.INDEX, States.TWELVE_ROWS, x -> x.remove(-1));
    edges.same(2, edges.answers(11, States.TWELVE_ROWS, x -> x.remove(0)).read(0, 1, A));
    edges.same(11, edges.answers(11, States.TWELVE_ROWS, x -> x.remove(11)).read(10, 1, A));
    edges.refused(Edges.INDEX, States.TWELVE_ROWS, x -> x.remove(12));
  }

  private void removeReturns() {
    edges.about("Promise 9", "Returns how many rows there are then.");
    edges.answers(0, States.A_ROW, x -> x.remove(0));
    edges.answers(2, States.FULL, x -> x.remove(2));
    edges.answers(10, States.ELEVEN_ROWS, x -> x.remove(5));
  }

  private void removeNoSuchRow() {
    edges.about("Promise 9", "Throws `IndexOutOfBoundsException` if there is no such row");
    edges.refused(Edges.INDEX, Edges.NEW, x -> x.remove(0));
    edges.refused(Edges.INDEX, States.A_ROW, x -> x.remove(1));
    edges.refused(Edges.INDEX, States.A_ROW, x -> x.remove(Edges.LEAST));
    edges.refused(Edges.INDEX, States.A_ROW, x -> x.remove(Edges.MOST));
    edges.refused(Edges.INDEX, States.oneRemoved(States.A_ROW), x -> x.remove(0));
    edges.answers(0, States.A_ROW, x -> x.remove(0));
  }

  // ---- promise 10

  private void goOnGoesOn() {
    edges.about("Promise 10", "Goes on by some rows.");
    ShapedRows x = edges.answers(2, States.oldRows(5), y -> y.goOn(2));
    int[] shapes = {1, 1, 0, 0, 0};
    for (int row = 0; row < shapes.length; row++) {
      edges.same(shapes[row], x.row(row, 0));
      edges.same(shapes[row], x.row(row, 3));
    }
    edges.same(2, x.count(4));
    edges.same(2, x.count(5));
    edges.same(11, x.row(0, 4));
  }

  private void goOnIsUndoable() {
    edges.about("Promise 10", "Undoable.");
    edges.undoable(Edges.NEW, x -> x.goOn(1));
    edges.undoable(States.oldRows(3), x -> x.goOn(2));
    edges.undoable(States.FULL, x -> x.goOn(12));
    edges.notUndoable(States.A_ROW, x -> x.goOn(0));
  }

  private void goOnRows() {
    edges.about("Promise 10", "`rows`: 1 to 12");
    edges.refused(Edges.ARGUMENT, States.oldRows(12), x -> x.goOn(0));
    edges.same(1, edges.answers(1, States.oldRows(12), x -> x.goOn(1)).count(4));
    edges.same(12, edges.answers(12, States.oldRows(12), x -> x.goOn(12)).count(4));
    edges.refused(Edges.ARGUMENT, States.oldRows(12), x -> x.goOn(13));
  }

  private void goOnReturns() {
    edges.about("Promise 10", "Returns how many are rewritten.");
    edges.answers(0, Edges.NEW, x -> x.goOn(12));
    edges.answers(0, States.A_ROW, x -> x.goOn(12));
    edges.answers(3, States.oldRows(3), x -> x.goOn(3));
    edges.answers(3, States.oldRows(3), x -> x.goOn(12));
    Edges.Calls mixed = x -> {
      States.ONE_COLUMN.on(x);
      x.insertBy(0);
      x.insertBy(1);
      x.insertBy(0);
    };
    edges.answers(1, mixed, x -> x.goOn(1));
    edges.answers(1, mixed, x -> x.goOn(2));
    edges.answers(2, mixed, x -> x.goOn(3));
  }

  private void goOnOutOfRange() {
    edges.about("Promise 10", "Throws `IllegalArgumentException` if rows is out of range");
    edges.refused(Edges.ARGUMENT, Edges.NEW, x -> x.goOn(0));
    edges.refused(Edges.ARGUMENT, States.FULL, x -> x.goOn(-1));
    edges.refused(Edges.ARGUMENT, States.FULL, x -> x.goOn(13));
    edges.refused(Edges.ARGUMENT, States.FULL, x -> x.goOn(Edges.LEAST));
    edges.refused(Edges.ARGUMENT, States.FULL, x -> x.goOn(Edges.MOST));
    edges.answers(2, States.FULL, x -> x.goOn(12));
  }

  /** No rows; the row 0 had values, was written and rewritten, before it was removed. */
  private static Edges.Calls usedBefore() {
    return x -> {
      States.TWO_COLUMNS.on(x);
      x.insertBy(0);
      x.write(0, 1, A, 300);
      x.write(0, 2, B, 400);
      x.remove(0);
    };
  }

  /** A row of the shape 1, while the newest one, 2, has "b" too. */
  private static Edges.Calls rowOfShapeOne() {
    return x -> {
      States.TWO_COLUMNS.on(x);
      x.insertBy(1);
    };
  }
}
