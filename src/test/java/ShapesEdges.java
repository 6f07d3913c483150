/** Promises 1 to 5, sentence by sentence, on both sides of each boundary. */
final class ShapesEdges {
  private static final int A = Edges.A;
  private static final int B = Edges.B;
  private static final int C = Edges.C;
  private static final int D = Edges.D;
  private static final int H = Edges.H;
  private static final int NONE = Edges.NONE;

  private final Edges edges;

  ShapesEdges(Edges edges) {
    this.edges = edges;
  }

  void all() {
    newObject();
    addNumber();
    addCopy();
    drop();
    rename();
  }

  private void newObject() {
    onlyShapeZero();
    withoutRows();
    emptyBuffer();
  }

  private void addNumber() {
    addNumberMakesAShape();
    addNumberIsUndoable();
    addNumberLetter();
    addNumberNumber();
    addNumberReturns();
    addNumberOutOfRange();
    addNumberLetterTaken();
    addNumberTwelveShapes();
  }

  private void addCopy() {
    addCopyMakesAShape();
    addCopyIsUndoable();
    addCopyLetter();
    addCopyOf();
    addCopyWith();
    addCopyWithNone();
    addCopyReturns();
    addCopyOutOfRange();
    addCopyLetterTaken();
    addCopyOthersMissing();
    addCopyTwelveShapes();
  }

  private void drop() {
    dropMakesAShape();
    dropIsUndoable();
    dropLetter();
    dropNumber();
    dropReturns();
    dropOutOfRange();
    dropLetterMissing();
    dropTwelveShapes();
  }

  private void rename() {
    renameMakesAShape();
    renameIsUndoable();
    renameLetter();
    renameOther();
    renameReturns();
    renameOutOfRange();
    renameFormerMissing();
    renameNewTaken();
    renameBothTheSame();
    renameTwelveShapes();
  }

  // ---- promise 1

  private void onlyShapeZero() {
    edges.about("Promise 1", "Creates the shape 0");
    edges.answers(1, Edges.NEW, x -> x.count(0));
    edges.answers(0, Edges.NEW, x -> x.shape(0, 0));
    edges.answers(0, Edges.NEW, x -> x.shape(0, 1));
    edges.refused(Edges.INDEX, Edges.NEW, x -> x.shape(-1, 0));
    edges.refused(Edges.INDEX, Edges.NEW, x -> x.shape(1, 0));
  }

  private void withoutRows() {
    edges.about("Promise 1", ", without rows");
    edges.answers(0, Edges.NEW, x -> x.count(2));
    edges.refused(Edges.INDEX, Edges.NEW, x -> x.row(0, 0));
    edges.answers(0, ShapedRows::insert, x -> x.row(0, 0));
  }

  private void emptyBuffer() {
    edges.about("Promise 1", ", with an empty buffer.");
    edges.answers(0, Edges.NEW, ShapedRows::clearBuffer);
    edges.answers(0, Edges.NEW, ShapedRows::firstError);
    edges.answers(1, Edges.NEW, x -> x.append('n'));
    edges.answers(0, Edges.NEW, x -> x.count(9));
  }

  // ---- promise 2

  private void addNumberMakesAShape() {
    edges.about("Promise 2", "Adds a column with a number: a new shape.");
    ShapedRows x = Edges.made(States.A_ROW);
    x.addNumber(D, 44);
    edges.same(4, x.count(0));
    edges.same(3, x.count(7));
    edges.same(1, x.shape(3, 1));
    edges.same(D, x.column(3, 2, 0));
    edges.same(44, x.read(0, 3, D));
    edges.same(NONE, x.read(0, 2, D));
    edges.same(2, x.row(0, 0));
  }

  private void addNumberIsUndoable() {
    edges.about("Promise 2", "Undoable.");
    edges.undoable(Edges.NEW, x -> x.addNumber(A, 1));
    edges.undoable(States.FULL, x -> x.addNumber(A, 1));
    edges.notUndoable(States.ONE_COLUMN, x -> x.addNumber(A, 1));
  }

  private void addNumberLetter() {
    edges.about("Promise 2", "`letter`: 0 to 7");
    edges.refused(Edges.ARGUMENT, Edges.NEW, x -> x.addNumber(-1, 5));
    edges.answers(1, Edges.NEW, x -> x.addNumber(0, 5));
    edges.answers(1, Edges.NEW, x -> x.addNumber(7, 5));
    edges.refused(Edges.ARGUMENT, Edges.NEW, x -> x.addNumber(8, 5));
  }

  private void addNumberNumber() {
    edges.about("Promise 2", "`number`: 0 to 99");
    edges.refused(Edges.ARGUMENT, States.A_ROW, x -> x.addNumber(C, -1));
    edges.same(0, edges.answers(3, States.A_ROW, x -> x.addNumber(C, 0)).read(0, 3, C));
    edges.same(99, edges.answers(3, States.A_ROW, x -> x.addNumber(C, 99)).read(0, 3, C));
    edges.refused(Edges.ARGUMENT, States.A_ROW, x -> x.addNumber(C, 100));
  }

  private void addNumberReturns() {
    edges.about("Promise 2", "Returns the number of the new shape.");
    edges.answers(1, Edges.NEW, x -> x.addNumber(A, 1));
    edges.answers(2, States.ONE_COLUMN, x -> x.addNumber(B, 1));
    edges.answers(11, States.ELEVEN_SHAPES, x -> x.addNumber(D, 1));
  }

  private void addNumberOutOfRange() {
    edges.about("Promise 2", "Throws `IllegalArgumentException` if an argument is out of range");
    edges.refused(Edges.ARGUMENT, Edges.NEW, x -> x.addNumber(Edges.LEAST, 5));
    edges.refused(Edges.ARGUMENT, Edges.NEW, x -> x.addNumber(Edges.MOST, 5));
    edges.refused(Edges.ARGUMENT, Edges.NEW, x -> x.addNumber(A, Edges.LEAST));
    edges.refused(Edges.ARGUMENT, Edges.NEW, x -> x.addNumber(A, Edges.MOST));
    edges.refused(Edges.ARGUMENT, Edges.NEW, x -> x.addNumber('a', 5));
    edges.answers(1, Edges.NEW, x -> x.addNumber(A, 5));
  }

  private void addNumberLetterTaken() {
    edges.about("Promise 2", "Throws `IllegalStateException` if the newest shape has this letter");
    edges.refused(Edges.STATE, States.TWO_COLUMNS, x -> x.addNumber(A, 5));
    edges.refused(Edges.STATE, States.TWO_COLUMNS, x -> x.addNumber(B, 5));
    edges.answers(3, States.TWO_COLUMNS, x -> x.addNumber(C, 5));
    Edges.Calls dropped = x -> {
      States.TWO_COLUMNS.on(x);
      x.drop(A, 1);
    };
    edges.answers(4, dropped, x -> x.addNumber(A, 5));
    edges.refused(Edges.STATE, dropped, x -> x.addNumber(B, 5));
    Edges.Calls renamed = x -> {
      States.TWO_COLUMNS.on(x);
      x.rename(B, H);
    };
    edges.answers(4, renamed, x -> x.addNumber(B, 5));
    edges.refused(Edges.STATE, renamed, x -> x.addNumber(H, 5));
  }

  private void addNumberTwelveShapes() {
    edges.about("Promise 2", ", or there are 12 shapes");
    edges.answers(11, States.ELEVEN_SHAPES, x -> x.addNumber(D, 5));
    edges.refused(Edges.STATE, States.TWELVE_SHAPES, x -> x.addNumber(D, 5));
    edges.answers(11, States.undone(States.TWELVE_SHAPES), x -> x.addNumber(D, 5));
  }

  // ---- promise 3

  private void addCopyMakesAShape() {
    edges.about("Promise 3", "Adds a column as a copy, or as a sum: a new shape.");
    ShapedRows x = Edges.made(States.A_ROW);
    x.addCopy(C, B, NONE);
    edges.same(2, x.shape(3, 1));
    x.addCopy(D, A, B);
    edges.same(3, x.shape(4, 1));
    edges.same(5, x.count(0));
    edges.same(4, x.count(7));
    edges.same(C, x.column(4, 2, 0));
    edges.same(D, x.column(4, 3, 0));
    edges.same(400, x.read(0, 4, C));
    edges.same(700, x.read(0, 4, D));
    edges.same(2, x.row(0, 0));
  }

  private void addCopyIsUndoable() {
    edges.about("Promise 3", "Undoable.");
    edges.undoable(States.A_ROW, x -> x.addCopy(C, A, NONE));
    edges.undoable(States.A_ROW, x -> x.addCopy(C, A, B));
    edges.undoable(States.FULL, x -> x.addCopy(D, B, C));
    edges.notUndoable(States.ONE_COLUMN, x -> x.addCopy(A, A, NONE));
  }

  private void addCopyLetter() {
    edges.about("Promise 3", "`letter`: 0 to 7");
    edges.refused(Edges.ARGUMENT, States.ONE_COLUMN, x -> x.addCopy(-1, A, NONE));
    edges.refused(Edges.ARGUMENT, States.ONE_COLUMN, x -> x.addCopy(8, A, NONE));
    edges.answers(2, States.ONE_COLUMN, x -> x.addCopy(7, A, NONE));
    edges.answers(2, x -> x.addNumber(B, 1), x -> x.addCopy(0, B, NONE));
  }

  private void addCopyOf() {
    edges.about("Promise 3", "`of`: 0 to 7, the letter of a column of the newest shape");
    edges.refused(Edges.ARGUMENT, States.EIGHT_COLUMNS, x -> x.addCopy(A, -1, NONE));
    edges.refused(Edges.ARGUMENT, States.EIGHT_COLUMNS, x -> x.addCopy(A, 8, NONE));
    edges.answers(2, States.ONE_COLUMN, x -> x.addCopy(B, 0, NONE));
    edges.answers(2, x -> x.addNumber(H, 1), x -> x.addCopy(B, 7, NONE));
    edges.refused(Edges.STATE, States.ONE_COLUMN, x -> x.addCopy(B, 7, NONE));
  }

  private void addCopyWith() {
    edges.about("Promise 3", "`with`: 0 to 7, likewise: the sum of both");
    Edges.Calls ends = x -> {
      x.addNumber(A, 40);
      x.addNumber(H, 2);
      x.insertBy(0);
    };
    edges.refused(Edges.ARGUMENT, ends, x -> x.addCopy(B, A, -2));
    edges.refused(Edges.ARGUMENT, ends, x -> x.addCopy(B, A, 8));
    edges.same(80, edges.answers(3, ends, x -> x.addCopy(B, A, 0)).read(0, 3, B));
    edges.same(42, edges.answers(3, ends, x -> x.addCopy(B, A, 7)).read(0, 3, B));
    edges.same(42, edges.answers(3, ends, x -> x.addCopy(B, H, 0)).read(0, 3, B));
    edges.refused(Edges.STATE, ends, x -> x.addCopy(B, A, 6));
  }

  private void addCopyWithNone() {
    edges.about("Promise 3", "; or NONE: a copy");
    ShapedRows x = edges.answers(3, States.A_ROW, y -> y.addCopy(C, A, NONE));
    edges.same(2, x.shape(3, 1));
    edges.same(300, x.read(0, 3, C));
    ShapedRows sum = edges.answers(3, States.A_ROW, y -> y.addCopy(C, A, NONE + 1));
    edges.same(3, sum.shape(3, 1));
    edges.same(600, sum.read(0, 3, C));
  }

  private void addCopyReturns() {
    edges.about("Promise 3", "Returns the number of the new shape.");
    edges.answers(2, States.ONE_COLUMN, x -> x.addCopy(B, A, NONE));
    edges.answers(3, States.TWO_COLUMNS, x -> x.addCopy(C, A, B));
    edges.answers(11, States.ELEVEN_SHAPES, x -> x.addCopy(D, A, B));
  }

  private void addCopyOutOfRange() {
    edges.about("Promise 3", "Throws `IllegalArgumentException` if an argument is out of range");
    int[] out = {Edges.LEAST, Edges.MOST, 'a', -3, 9};
    for (int odd : out) {
      edges.refused(Edges.ARGUMENT, States.ONE_COLUMN, x -> x.addCopy(odd, A, A));
      edges.refused(Edges.ARGUMENT, States.ONE_COLUMN, x -> x.addCopy(B, odd, A));
      edges.refused(Edges.ARGUMENT, States.ONE_COLUMN, x -> x.addCopy(B, A, odd));
    }
    edges.answers(2, States.ONE_COLUMN, x -> x.addCopy(B, A, A));
  }

  private void addCopyLetterTaken() {
    edges.about("Promise 3", "Throws `IllegalStateException` if the newest shape has the letter");
    edges.refused(Edges.STATE, States.TWO_COLUMNS, x -> x.addCopy(A, A, NONE));
    edges.refused(Edges.STATE, States.TWO_COLUMNS, x -> x.addCopy(B, A, NONE));
    edges.refused(Edges.STATE, States.TWO_COLUMNS, x -> x.addCopy(B, A, A));
    edges.answers(3, States.TWO_COLUMNS, x -> x.addCopy(C, A, NONE));
    Edges.Calls dropped = x -> {
      States.TWO_COLUMNS.on(x);
      x.drop(B, 1);
    };
    edges.answers(4, dropped, x -> x.addCopy(B, A, NONE));
  }

  private void addCopyOthersMissing() {
    edges.about("Promise 3", ", or does not have one of the others");
    edges.refused(Edges.STATE, States.TWO_COLUMNS, x -> x.addCopy(C, D, NONE));
    edges.refused(Edges.STATE, States.TWO_COLUMNS, x -> x.addCopy(C, C, NONE));
    edges.refused(Edges.STATE, States.TWO_COLUMNS, x -> x.addCopy(C, D, A));
    edges.refused(Edges.STATE, States.TWO_COLUMNS, x -> x.addCopy(C, A, D));
    edges.refused(Edges.STATE, States.TWO_COLUMNS, x -> x.addCopy(C, A, C));
    edges.refused(Edges.STATE, Edges.NEW, x -> x.addCopy(A, B, NONE));
    edges.answers(3, States.TWO_COLUMNS, x -> x.addCopy(C, A, B));
    Edges.Calls dropped = x -> {
      States.TWO_COLUMNS.on(x);
      x.drop(B, 1);
    };
    edges.refused(Edges.STATE, dropped, x -> x.addCopy(C, B, NONE));
    edges.refused(Edges.STATE, dropped, x -> x.addCopy(C, A, B));
    edges.answers(4, dropped, x -> x.addCopy(C, A, A));
  }

  private void addCopyTwelveShapes() {
    edges.about("Promise 3", ", or there are 12 shapes");
    edges.answers(11, States.ELEVEN_SHAPES, x -> x.addCopy(D, A, NONE));
    edges.refused(Edges.STATE, States.TWELVE_SHAPES, x -> x.addCopy(D, A, NONE));
    edges.refused(Edges.STATE, States.TWELVE_SHAPES, x -> x.addCopy(D, A, C));
    edges.answers(11, States.undone(States.TWELVE_SHAPES), x -> x.addCopy(D, A, NONE));
  }

  // ---- promise 4

  private void dropMakesAShape() {
    edges.about("Promise 4", "Drops a column: a new shape.");
    ShapedRows x = Edges.made(States.A_ROW);
    x.drop(A, 9);
    edges.same(4, x.count(0));
    edges.same(1, x.count(7));
    edges.same(4, x.shape(3, 1));
    edges.same(B, x.column(3, 0, 0));
    edges.same(NONE, x.column(3, 1, 0));
    edges.same(NONE, x.read(0, 3, A));
    edges.same(300, x.read(0, 2, A));
    edges.same(400, x.read(0, 3, B));
    edges.same(2, x.row(0, 0));
  }

  private void dropIsUndoable() {
    edges.about("Promise 4", "Undoable.");
    edges.undoable(States.A_ROW, x -> x.drop(A, 9));
    edges.undoable(States.FULL, x -> x.drop(B, 9));
    edges.notUndoable(States.ONE_COLUMN, x -> x.drop(B, 9));
  }

  private void dropLetter() {
    edges.about("Promise 4", "`letter`: 0 to 7");
    edges.refused(Edges.ARGUMENT, States.EIGHT_COLUMNS, x -> x.drop(-1, 5));
    edges.same(254, edges.answers(9, States.EIGHT_COLUMNS, x -> x.drop(0, 5)).shape(9, 5));
    edges.same(127, edges.answers(9, States.EIGHT_COLUMNS, x -> x.drop(7, 5)).shape(9, 5));
    edges.refused(Edges.ARGUMENT, States.EIGHT_COLUMNS, x -> x.drop(8, 5));
  }

  private void dropNumber() {
    edges.about("Promise 4", "`number`: 0 to 99, which older shapes will read for it");
    edges.refused(Edges.ARGUMENT, States.TWO_COLUMNS, x -> x.drop(A, -1));
    edges.refused(Edges.ARGUMENT, States.TWO_COLUMNS, x -> x.drop(A, 100));
    int[] numbers = {0, 1, 98, 99};
    for (int number : numbers) {
      ShapedRows x = edges.answers(3, States.TWO_COLUMNS, y -> y.drop(A, number));
      x.insert();
      edges.same(number, x.read(0, 2, A));
      edges.same(number, x.read(0, 1, A));
      edges.same(0, x.read(0, 2, B));
    }
  }

  private void dropReturns() {
    edges.about("Promise 4", "Returns the number of the new shape.");
    edges.answers(2, States.ONE_COLUMN, x -> x.drop(A, 1));
    edges.answers(3, States.TWO_COLUMNS, x -> x.drop(B, 1));
    edges.answers(11, States.ELEVEN_SHAPES, x -> x.drop(A, 1));
  }

  private void dropOutOfRange() {
    edges.about("Promise 4", "Throws `IllegalArgumentException` if an argument is out of range");
    edges.refused(Edges.ARGUMENT, States.ONE_COLUMN, x -> x.drop(Edges.LEAST, 5));
    edges.refused(Edges.ARGUMENT, States.ONE_COLUMN, x -> x.drop(Edges.MOST, 5));
    edges.refused(Edges.ARGUMENT, States.ONE_COLUMN, x -> x.drop(A, Edges.LEAST));
    edges.refused(Edges.ARGUMENT, States.ONE_COLUMN, x -> x.drop(A, Edges.MOST));
    edges.answers(2, States.ONE_COLUMN, x -> x.drop(A, 5));
  }

  private void dropLetterMissing() {
    edges.about("Promise 4",
        "Throws `IllegalStateException` if the newest shape does not have this letter");
    edges.refused(Edges.STATE, Edges.NEW, x -> x.drop(A, 5));
    edges.refused(Edges.STATE, States.ONE_COLUMN, x -> x.drop(B, 5));
    edges.answers(2, States.ONE_COLUMN, x -> x.drop(A, 5));
    Edges.Calls dropped = x -> {
      States.TWO_COLUMNS.on(x);
      x.drop(A, 1);
    };
    edges.refused(Edges.STATE, dropped, x -> x.drop(A, 5));
    edges.answers(4, dropped, x -> x.drop(B, 5));
    Edges.Calls renamed = x -> {
      States.ONE_COLUMN.on(x);
      x.rename(A, H);
    };
    edges.refused(Edges.STATE, renamed, x -> x.drop(A, 5));
    edges.answers(3, renamed, x -> x.drop(H, 5));
  }

  private void dropTwelveShapes() {
    edges.about("Promise 4", ", or there are 12 shapes");
    edges.answers(11, States.ELEVEN_SHAPES, x -> x.drop(A, 5));
    edges.refused(Edges.STATE, States.TWELVE_SHAPES, x -> x.drop(A, 5));
    edges.answers(11, States.undone(States.TWELVE_SHAPES), x -> x.drop(A, 5));
  }

  // ---- promise 5

  private void renameMakesAShape() {
    edges.about("Promise 5", "Renames a column: a new shape.");
    ShapedRows x = Edges.made(States.A_ROW);
    x.rename(A, D);
    edges.same(4, x.count(0));
    edges.same(2, x.count(7));
    edges.same(5, x.shape(3, 1));
    edges.same(D, x.column(3, 0, 0));
    edges.same(B, x.column(3, 1, 0));
    edges.same(A, x.column(2, 0, 0));
    edges.same(300, x.read(0, 3, D));
    edges.same(NONE, x.read(0, 3, A));
    edges.same(2, x.row(0, 0));
  }

  private void renameIsUndoable() {
    edges.about("Promise 5", "Undoable.");
    edges.undoable(States.A_ROW, x -> x.rename(A, D));
    edges.undoable(States.FULL, x -> x.rename(B, D));
    edges.notUndoable(States.ONE_COLUMN, x -> x.rename(A, A));
  }

  private void renameLetter() {
    edges.about("Promise 5", "`letter`: 0 to 7, the former letter");
    Edges.Calls ends = x -> {
      x.addNumber(A, 1);
      x.addNumber(H, 2);
    };
    edges.refused(Edges.ARGUMENT, ends, x -> x.rename(-1, D));
    edges.same(D, edges.answers(3, ends, x -> x.rename(0, D)).column(3, 0, 0));
    edges.same(D, edges.answers(3, ends, x -> x.rename(7, D)).column(3, 1, 0));
    edges.refused(Edges.ARGUMENT, ends, x -> x.rename(8, D));
  }

  private void renameOther() {
    edges.about("Promise 5", "`other`: 0 to 7, the new one");
    Edges.Calls middle = x -> x.addNumber(D, 1);
    edges.refused(Edges.ARGUMENT, middle, x -> x.rename(D, -1));
    edges.same(A, edges.answers(2, middle, x -> x.rename(D, 0)).column(2, 0, 0));
    edges.same(H, edges.answers(2, middle, x -> x.rename(D, 7)).column(2, 0, 0));
    edges.refused(Edges.ARGUMENT, middle, x -> x.rename(D, 8));
  }

  private void renameReturns() {
    edges.about("Promise 5", "Returns the number of the new shape.");
    edges.answers(2, States.ONE_COLUMN, x -> x.rename(A, B));
    edges.answers(3, States.TWO_COLUMNS, x -> x.rename(A, C));
    edges.answers(11, States.ELEVEN_SHAPES, x -> x.rename(A, D));
  }

  private void renameOutOfRange() {
    edges.about("Promise 5", "Throws `IllegalArgumentException` if an argument is out of range");
    edges.refused(Edges.ARGUMENT, States.ONE_COLUMN, x -> x.rename(Edges.LEAST, B));
    edges.refused(Edges.ARGUMENT, States.ONE_COLUMN, x -> x.rename(Edges.MOST, B));
    edges.refused(Edges.ARGUMENT, States.ONE_COLUMN, x -> x.rename(A, Edges.LEAST));
    edges.refused(Edges.ARGUMENT, States.ONE_COLUMN, x -> x.rename(A, Edges.MOST));
    edges.refused(Edges.ARGUMENT, States.ONE_COLUMN, x -> x.rename(A, NONE));
    edges.answers(2, States.ONE_COLUMN, x -> x.rename(A, B));
  }

  private void renameFormerMissing() {
    edges.about("Promise 5",
        "Throws `IllegalStateException` if the newest shape does not have the former letter");
    edges.refused(Edges.STATE, Edges.NEW, x -> x.rename(A, B));
    edges.refused(Edges.STATE, States.ONE_COLUMN, x -> x.rename(B, C));
    edges.answers(2, States.ONE_COLUMN, x -> x.rename(A, C));
    Edges.Calls renamed = x -> {
      States.ONE_COLUMN.on(x);
      x.rename(A, H);
    };
    edges.refused(Edges.STATE, renamed, x -> x.rename(A, C));
    edges.answers(3, renamed, x -> x.rename(H, C));
  }

  private void renameNewTaken() {
    edges.about("Promise 5", ", or has the new one");
    edges.refused(Edges.STATE, States.TWO_COLUMNS, x -> x.rename(A, B));
    edges.refused(Edges.STATE, States.TWO_COLUMNS, x -> x.rename(B, A));
    edges.answers(3, States.TWO_COLUMNS, x -> x.rename(A, C));
    Edges.Calls dropped = x -> {
      States.TWO_COLUMNS.on(x);
      x.drop(B, 1);
    };
    edges.answers(4, dropped, x -> x.rename(A, B));
  }

  private void renameBothTheSame() {
    edges.about("Promise 5", "(also if both are the same)");
    edges.refused(Edges.STATE, States.TWO_COLUMNS, x -> x.rename(A, A));
    edges.refused(Edges.STATE, States.TWO_COLUMNS, x -> x.rename(B, B));
    edges.refused(Edges.STATE, States.TWO_COLUMNS, x -> x.rename(C, C));
    edges.answers(3, States.TWO_COLUMNS, x -> x.rename(B, C));
  }

  private void renameTwelveShapes() {
    edges.about("Promise 5", ", or there are 12 shapes");
    edges.answers(11, States.ELEVEN_SHAPES, x -> x.rename(A, D));
    edges.refused(Edges.STATE, States.TWELVE_SHAPES, x -> x.rename(A, D));
    edges.answers(11, States.undone(States.TWELVE_SHAPES), x -> x.rename(A, D));
  }
}
