/** Promises 18 to 23, sentence by sentence, on both sides of each boundary. */
final class LooksEdges {
  private static final int A = Edges.A;
  private static final int B = Edges.B;
  private static final int C = Edges.C;
  private static final int D = Edges.D;
  private static final int H = Edges.H;
  private static final int NONE = Edges.NONE;

  private final Edges edges;

  LooksEdges(Edges edges) {
    this.edges = edges;
  }

  void all() {
    read();
    readAs();
    column();
    shape();
    row();
    count();
  }

  private void read() {
    readReads();
    readRow();
    readShape();
    readLetter();
    readReturns();
    readReturnsNone();
    readNoSuchRowOrShape();
    readRetired();
    readOutOfRange();
  }

  private void readAs() {
    readAsReads();
    readAsReader();
    readAsRow();
    readAsLetter();
    readAsReturns();
    readAsReturnsNone();
    readAsNoSuchReaderOrRow();
    readAsOutOfRange();
  }

  private void column() {
    columnReturns();
    columnShape();
    columnPlace();
    columnLetter();
    columnFirstShape();
    columnPlaceInNewest();
    columnNotSoMany();
    columnNoSuchShape();
    columnOutOfRange();
  }

  private void shape() {
    shapeReturns();
    shapeReturnsTheProperty();
    shapeNumber();
    shapeColumns();
    shapeChange();
    shapeRows();
    shapeReaders();
    shapeRetired();
    shapeLetters();
    shapeNoSuchShape();
    shapeOutOfRange();
  }

  private void row() {
    rowReturns();
    rowReturnsTheProperty();
    rowNumber();
    rowShape();
    rowColumns();
    rowBehind();
    rowRewritten();
    rowSum();
    rowSumByNewest();
    rowNoSuchRow();
    rowOutOfRange();
  }

  private void count() {
    countReturns();
    countReturnsTheNumber();
    countShapesAndMark();
    countRows();
    countCursor();
    countRewritten();
    countWrites();
    countColumns();
    countOldest();
    countSaved();
    countOutOfRange();
  }

  // ---- promise 18

  private void readReads() {
    edges.about("Promise 18", "Reads a value of a row by a shape.");
    edges.answers(300, States.A_ROW, x -> x.read(0, 2, A));
    edges.answers(300, States.A_ROW, x -> x.read(0, 1, A));
    Edges.Calls newer = x -> {
      States.A_ROW.on(x);
      x.addCopy(C, A, B);
    };
    edges.answers(700, newer, x -> x.read(0, 3, C));
    edges.changesNothing(newer, x -> x.read(0, 3, C));
    edges.changesNothing(newer, x -> x.read(0, 0, A));
  }

  private void readRow() {
    edges.about("Promise 18", "`row`: its number");
    edges.refused(Edges.INDEX, States.TWELVE_ROWS, x -> x.read(-1, 1, A));
    edges.answers(1, States.TWELVE_ROWS, x -> x.read(0, 1, A));
    edges.answers(12, States.TWELVE_ROWS, x -> x.read(11, 1, A));
    edges.refused(Edges.INDEX, States.TWELVE_ROWS, x -> x.read(12, 1, A));
  }

  private void readShape() {
    edges.about("Promise 18", "`shape`: the number of a shape that is not retired");
    edges.refused(Edges.INDEX, States.A_ROW, x -> x.read(0, -1, A));
    edges.answers(NONE, States.A_ROW, x -> x.read(0, 0, A));
    edges.answers(300, States.A_ROW, x -> x.read(0, 2, A));
    edges.refused(Edges.INDEX, States.A_ROW, x -> x.read(0, 3, A));
  }

  private void readLetter() {
    edges.about("Promise 18", "`letter`: 0 to 7, the letter of a column in this shape");
    Edges.Calls eight = x -> {
      States.EIGHT_COLUMNS.on(x);
      x.insertBy(0);
    };
    edges.refused(Edges.ARGUMENT, eight, x -> x.read(0, 8, -1));
    for (int letter = 0; letter <= 7; letter++) {
      int read = letter;
      edges.answers(10 + read, eight, x -> x.read(0, 8, read));
    }
    edges.refused(Edges.ARGUMENT, eight, x -> x.read(0, 8, 8));
  }

  private void readReturns() {
    edges.about("Promise 18", "Returns the value");
    edges.answers(0, x -> {
      States.A_ROW.on(x);
      x.write(0, 2, A, 0);
    }, x -> x.read(0, 2, A));
    edges.answers(99999, x -> {
      States.A_ROW.on(x);
      x.write(0, 2, A, 99999);
    }, x -> x.read(0, 1, A));
  }

  private void readReturnsNone() {
    edges.about("Promise 18", "; NONE if the shape does not have this letter.");
    edges.answers(NONE, States.A_ROW, x -> x.read(0, 2, C));
    edges.answers(NONE, States.A_ROW, x -> x.read(0, 2, H));
    edges.answers(NONE, States.A_ROW, x -> x.read(0, 1, B));
    edges.answers(400, States.A_ROW, x -> x.read(0, 2, B));
    Edges.Calls dropped = x -> {
      States.A_ROW.on(x);
      x.drop(A, 9);
      x.rename(B, A);
    };
    edges.answers(NONE, dropped, x -> x.read(0, 3, A));
    edges.answers(400, dropped, x -> x.read(0, 4, A));
    edges.answers(NONE, dropped, x -> x.read(0, 4, B));
  }

  private void readNoSuchRowOrShape() {
    edges.about("Promise 18",
        "Throws `IndexOutOfBoundsException` if there is no such row or shape");
    edges.refused(Edges.INDEX, States.TWO_COLUMNS, x -> x.read(0, 2, A));
    int[] out = {Edges.LEAST, -1, 3, 12, 1 << 28, 1 << 29, 1 << 30, Edges.MOST};
    for (int odd : out) {
      edges.refused(Edges.INDEX, States.A_ROW, x -> x.read(odd, 2, A));
      edges.refused(Edges.INDEX, States.A_ROW, x -> x.read(0, odd, A));
    }
    edges.refused(Edges.INDEX, States.oneRemoved(States.A_ROW), x -> x.read(0, 2, A));
    edges.answers(300, States.A_ROW, x -> x.read(0, 2, A));
  }

  private void readRetired() {
    edges.about("Promise 18", ", or the shape is retired");
    edges.refused(Edges.INDEX, States.RETIRED, x -> x.read(0, 0, A));
    edges.answers(0, States.RETIRED, x -> x.read(0, 1, A));
  }

  private void readOutOfRange() {
    edges.about("Promise 18", "Throws `IllegalArgumentException` if letter is out of range");
    edges.refused(Edges.ARGUMENT, States.A_ROW, x -> x.read(0, 2, Edges.LEAST));
    edges.refused(Edges.ARGUMENT, States.A_ROW, x -> x.read(0, 2, Edges.MOST));
    edges.refused(Edges.ARGUMENT, States.A_ROW, x -> x.read(0, 0, 8));
    edges.answers(NONE, States.A_ROW, x -> x.read(0, 0, 7));
  }

  // ---- promise 19

  private void readAsReads() {
    edges.about("Promise 19", "Reads a value of a row by the shape that a reader holds.");
    Edges.Calls held = x -> {
      States.A_ROW.on(x);
      x.rename(A, D);
      x.hold(1, 1);
      x.hold(2, 2);
      x.hold(3, 3);
    };
    int[] due = {NONE, 300, 300, NONE};
    int[] dueOfD = {NONE, NONE, NONE, 300};
    for (int reader = 0; reader < 4; reader++) {
      int by = reader;
      edges.answers(due[reader], held, x -> x.readAs(by, 0, A));
      edges.answers(dueOfD[reader], held, x -> x.readAs(by, 0, D));
      edges.changesNothing(held, x -> x.readAs(by, 0, A));
    }
  }

  private void readAsReader() {
    edges.about("Promise 19", "`reader`: 0 to 3");
    edges.refused(Edges.INDEX, States.RETIRED, x -> x.readAs(-1, 0, A));
    edges.answers(0, States.RETIRED, x -> x.readAs(0, 0, A));
    edges.answers(0, States.RETIRED, x -> x.readAs(3, 0, A));
    edges.refused(Edges.INDEX, States.RETIRED, x -> x.readAs(4, 0, A));
  }

  private void readAsRow() {
    edges.about("Promise 19", "`row`: its number");
    Edges.Calls held = x -> {
      States.TWELVE_ROWS.on(x);
      x.hold(0, 1);
    };
    edges.refused(Edges.INDEX, held, x -> x.readAs(0, -1, A));
    edges.answers(1, held, x -> x.readAs(0, 0, A));
    edges.answers(12, held, x -> x.readAs(0, 11, A));
    edges.refused(Edges.INDEX, held, x -> x.readAs(0, 12, A));
  }

  private void readAsLetter() {
    edges.about("Promise 19", "`letter`: 0 to 7");
    Edges.Calls eight = x -> {
      States.EIGHT_COLUMNS.on(x);
      x.insertBy(0);
      x.hold(2, 8);
    };
    edges.refused(Edges.ARGUMENT, eight, x -> x.readAs(2, 0, -1));
    edges.answers(10, eight, x -> x.readAs(2, 0, 0));
    edges.answers(17, eight, x -> x.readAs(2, 0, 7));
    edges.refused(Edges.ARGUMENT, eight, x -> x.readAs(2, 0, 8));
  }

  private void readAsReturns() {
    edges.about("Promise 19", "Returns the value");
    Edges.Calls held = x -> {
      States.A_ROW.on(x);
      x.hold(0, 2);
      x.write(0, 2, A, 0);
      x.write(0, 2, B, 99999);
    };
    edges.answers(0, held, x -> x.readAs(0, 0, A));
    edges.answers(99999, held, x -> x.readAs(0, 0, B));
  }

  private void readAsReturnsNone() {
    edges.about("Promise 19", "; NONE if that shape does not have this letter.");
    Edges.Calls held = x -> {
      States.A_ROW.on(x);
      x.hold(0, 1);
    };
    edges.answers(300, held, x -> x.readAs(0, 0, A));
    edges.answers(NONE, held, x -> x.readAs(0, 0, B));
    edges.answers(NONE, held, x -> x.readAs(0, 0, H));
    edges.answers(NONE, held, x -> x.readAs(1, 0, A));
  }

  private void readAsNoSuchReaderOrRow() {
    edges.about("Promise 19",
        "Throws `IndexOutOfBoundsException` if there is no such reader or row");
    edges.refused(Edges.INDEX, Edges.NEW, x -> x.readAs(0, 0, A));
    int[] out = {Edges.LEAST, -1, 4, 12, Edges.MOST};
    for (int odd : out) {
      edges.refused(Edges.INDEX, States.A_ROW, x -> x.readAs(odd, 0, A));
      edges.refused(Edges.INDEX, States.A_ROW, x -> x.readAs(0, odd, A));
    }
    edges.refused(Edges.INDEX, States.A_ROW, x -> x.readAs(0, 1, A));
    edges.answers(NONE, States.A_ROW, x -> x.readAs(0, 0, A));
  }

  private void readAsOutOfRange() {
    edges.about("Promise 19", "Throws `IllegalArgumentException` if letter is out of range");
    edges.refused(Edges.ARGUMENT, States.A_ROW, x -> x.readAs(0, 0, Edges.LEAST));
    edges.refused(Edges.ARGUMENT, States.A_ROW, x -> x.readAs(0, 0, Edges.MOST));
    edges.refused(Edges.ARGUMENT, States.A_ROW, x -> x.readAs(3, 0, 8));
    edges.answers(NONE, States.A_ROW, x -> x.readAs(3, 0, 7));
  }

  // ---- promise 20

  private void columnReturns() {
    edges.about("Promise 20", "Returns a column of a shape (also of one that is retired).");
    edges.answers(1, States.FULL, x -> x.shape(0, 4));
    edges.answers(NONE, States.FULL, x -> x.column(0, 0, 0));
    Edges.Calls retired = x -> {
      States.TWO_COLUMNS.on(x);
      x.drop(A, 9);
      Check.holdAll(x, 3);
      x.retire(3);
    };
    edges.answers(1, retired, x -> x.shape(2, 4));
    edges.answers(B, retired, x -> x.column(2, 1, 0));
    edges.answers(2, retired, x -> x.column(2, 1, 1));
    edges.answers(0, retired, x -> x.column(2, 1, 2));
    edges.answers(NONE, retired, x -> x.column(1, 0, 2));
    edges.changesNothing(retired, x -> x.column(2, 1, 0));
  }

  private void columnShape() {
    edges.about("Promise 20", "`shape`: the number of a shape");
    edges.refused(Edges.INDEX, States.TWO_COLUMNS, x -> x.column(-1, 0, 0));
    edges.answers(NONE, States.TWO_COLUMNS, x -> x.column(0, 0, 0));
    edges.answers(A, States.TWO_COLUMNS, x -> x.column(2, 0, 0));
    edges.refused(Edges.INDEX, States.TWO_COLUMNS, x -> x.column(3, 0, 0));
  }

  private void columnPlace() {
    edges.about("Promise 20", "`place`: the place of the column, from 0");
    edges.refused(Edges.ARGUMENT, States.EIGHT_COLUMNS, x -> x.column(8, -1, 0));
    for (int place = 0; place < 8; place++) {
      int at = place;
      edges.answers(at, States.EIGHT_COLUMNS, x -> x.column(8, at, 0));
    }
    edges.answers(NONE, States.EIGHT_COLUMNS, x -> x.column(8, 8, 0));
  }

  private void columnLetter() {
    edges.about("Promise 20", "`what`: 0: its letter");
    Edges.Calls changed = x -> {
      States.TWO_COLUMNS.on(x);
      x.rename(A, H);
    };
    edges.answers(A, changed, x -> x.column(1, 0, 0));
    edges.answers(A, changed, x -> x.column(2, 0, 0));
    edges.answers(H, changed, x -> x.column(3, 0, 0));
    edges.answers(B, changed, x -> x.column(3, 1, 0));
  }

  private void columnFirstShape() {
    edges.about("Promise 20", "; 1: the first shape that has this column");
    Edges.Calls anew = x -> {
      States.TWO_COLUMNS.on(x);
      x.rename(A, H);
      x.drop(B, 9);
      x.addNumber(A, 1);
      x.addCopy(B, A, NONE);
    };
    edges.answers(1, anew, x -> x.column(1, 0, 1));
    edges.answers(2, anew, x -> x.column(2, 1, 1));
    edges.answers(1, anew, x -> x.column(6, 0, 1));
    edges.answers(5, anew, x -> x.column(6, 1, 1));
    edges.answers(6, anew, x -> x.column(6, 2, 1));
  }

  private void columnPlaceInNewest() {
    edges.about("Promise 20", "; 2: its place in the newest shape, NONE if that does not have it");
    Edges.Calls anew = x -> {
      States.TWO_COLUMNS.on(x);
      x.addNumber(C, 3);
      x.drop(A, 9);
      x.addNumber(A, 1);
      x.rename(B, H);
    };
    edges.answers(NONE, anew, x -> x.column(1, 0, 2));
    edges.answers(NONE, anew, x -> x.column(3, 0, 2));
    edges.answers(0, anew, x -> x.column(3, 1, 2));
    edges.answers(1, anew, x -> x.column(3, 2, 2));
    edges.answers(2, anew, x -> x.column(6, 2, 2));
    edges.answers(0, States.undone(States.undone(States.undone(anew))), x -> x.column(1, 0, 2));
  }

  private void columnNotSoMany() {
    edges.about("Promise 20", "Returns the number; NONE if there are not so many columns.");
    for (int what = 0; what <= 2; what++) {
      int asked = what;
      edges.answers(NONE, States.EIGHT_COLUMNS, x -> x.column(0, 0, asked));
      edges.answers(NONE, States.EIGHT_COLUMNS, x -> x.column(7, 7, asked));
      edges.answers(NONE, States.EIGHT_COLUMNS, x -> x.column(7, 8, asked));
      edges.answers(NONE, States.EIGHT_COLUMNS, x -> x.column(8, 8, asked));
      edges.answers(NONE, States.EIGHT_COLUMNS, x -> x.column(8, Edges.MOST, asked));
      edges.answers(asked == 1 ? 7 : 6, States.EIGHT_COLUMNS, x -> x.column(7, 6, asked));
      edges.answers(asked == 1 ? 8 : 7, States.EIGHT_COLUMNS, x -> x.column(8, 7, asked));
    }
    Edges.Calls dropped = x -> {
      States.EIGHT_COLUMNS.on(x);
      x.drop(H, 1);
    };
    edges.answers(NONE, dropped, x -> x.column(9, 7, 0));
    edges.answers(6, dropped, x -> x.column(9, 6, 0));
  }

  private void columnNoSuchShape() {
    edges.about("Promise 20", "Throws `IndexOutOfBoundsException` if there is no such shape");
    edges.refused(Edges.INDEX, Edges.NEW, x -> x.column(1, 0, 0));
    edges.refused(Edges.INDEX, States.TWELVE_SHAPES, x -> x.column(12, 0, 0));
    edges.refused(Edges.INDEX, States.TWELVE_SHAPES, x -> x.column(Edges.LEAST, 0, 0));
    edges.refused(Edges.INDEX, States.TWELVE_SHAPES, x -> x.column(Edges.MOST, 0, 0));
    edges.refused(Edges.INDEX, States.undone(States.TWELVE_SHAPES), x -> x.column(11, 0, 0));
    edges.answers(A, States.TWELVE_SHAPES, x -> x.column(11, 0, 0));
  }

  private void columnOutOfRange() {
    edges.about("Promise 20",
        "Throws `IllegalArgumentException` if place is below 0, or what is not 0 to 2");
    edges.refused(Edges.ARGUMENT, States.TWO_COLUMNS, x -> x.column(2, -1, 0));
    edges.refused(Edges.ARGUMENT, States.TWO_COLUMNS, x -> x.column(2, Edges.LEAST, 0));
    edges.answers(A, States.TWO_COLUMNS, x -> x.column(2, 0, 0));
    edges.refused(Edges.ARGUMENT, States.TWO_COLUMNS, x -> x.column(2, 0, -1));
    edges.answers(0, States.TWO_COLUMNS, x -> x.column(2, 0, 2));
    edges.refused(Edges.ARGUMENT, States.TWO_COLUMNS, x -> x.column(2, 0, 3));
    edges.refused(Edges.ARGUMENT, States.TWO_COLUMNS, x -> x.column(2, 0, Edges.LEAST));
    edges.refused(Edges.ARGUMENT, States.TWO_COLUMNS, x -> x.column(2, 0, Edges.MOST));
    edges.refused(Edges.ARGUMENT, States.TWO_COLUMNS, x -> x.column(0, 5, 3));
    edges.refused(Edges.ARGUMENT, States.TWO_COLUMNS, x -> x.column(0, 5, -1));
    edges.answers(NONE, States.TWO_COLUMNS, x -> x.column(0, 5, 2));
  }

  // ---- promise 21

  private void shapeReturnsTheProperty() {
    edges.about("Promise 21", "Returns the property.");
    int[] due = {1, 1, 0, 3, 0, 1};
    for (int what = 0; what < due.length; what++) {
      int asked = what;
      edges.answers(due[what], States.FULL, x -> x.shape(1, asked));
    }
  }

  private void shapeReturns() {
    edges.about("Promise 21", "Returns a property of a shape.");
    int[] due = {2, 1, 1, 0, 0, 3};
    for (int what = 0; what < due.length; what++) {
      int asked = what;
      edges.answers(due[what], States.A_ROW, x -> x.shape(2, asked));
      edges.changesNothing(States.A_ROW, x -> x.shape(2, asked));
    }
  }

  private void shapeNumber() {
    edges.about("Promise 21", "`shape`: the number of a shape");
    edges.refused(Edges.INDEX, States.TWO_COLUMNS, x -> x.shape(-1, 0));
    edges.answers(0, States.TWO_COLUMNS, x -> x.shape(0, 0));
    edges.answers(2, States.TWO_COLUMNS, x -> x.shape(2, 0));
    edges.refused(Edges.INDEX, States.TWO_COLUMNS, x -> x.shape(3, 0));
  }

  private void shapeColumns() {
    edges.about("Promise 21", "`what`: 0: its columns, how many");
    for (int shape = 0; shape <= 8; shape++) {
      int asked = shape;
      edges.answers(shape, States.EIGHT_COLUMNS, x -> x.shape(asked, 0));
    }
    Edges.Calls dropped = x -> {
      States.ONE_COLUMN.on(x);
      x.drop(A, 1);
    };
    edges.answers(0, dropped, x -> x.shape(2, 0));
    edges.answers(1, dropped, x -> x.shape(1, 0));
  }

  private void shapeChange() {
    edges.about("Promise 21", "; 1: the change by which it came, 1 to 5, 0 for the first one");
    Edges.Calls each = x -> {
      x.addNumber(A, 1);
      x.addCopy(B, A, NONE);
      x.addCopy(C, A, B);
      x.drop(A, 1);
      x.rename(B, H);
    };
    for (int shape = 0; shape <= 5; shape++) {
      int asked = shape;
      edges.answers(shape, each, x -> x.shape(asked, 1));
    }
  }

  private void shapeRows() {
    edges.about("Promise 21", "; 2: rows that have it");
    edges.answers(0, Edges.NEW, x -> x.shape(0, 2));
    edges.answers(12, States.TWELVE_ROWS, x -> x.shape(1, 2));
    edges.answers(0, States.TWELVE_ROWS, x -> x.shape(0, 2));
    Edges.Calls some = x -> {
      States.oldRows(3).on(x);
      x.goOn(1);
    };
    edges.answers(2, some, x -> x.shape(0, 2));
    edges.answers(1, some, x -> x.shape(1, 2));
  }

  private void shapeReaders() {
    edges.about("Promise 21", "; 3: readers that hold it");
    for (int held = 0; held <= 4; held++) {
      int readers = held;
      Edges.Calls some = x -> {
        States.ONE_COLUMN.on(x);
        for (int reader = 0; reader < readers; reader++) {
          x.hold(reader, 1);
        }
      };
      edges.answers(4 - held, some, x -> x.shape(0, 3));
      edges.answers(held, some, x -> x.shape(1, 3));
    }
  }

  private void shapeRetired() {
    edges.about("Promise 21", "; 4: 1 if it is retired, otherwise 0");
    edges.answers(0, Edges.NEW, x -> x.shape(0, 4));
    edges.answers(1, States.RETIRED, x -> x.shape(0, 4));
    edges.answers(0, States.RETIRED, x -> x.shape(1, 4));
    edges.answers(0, States.RETIRED, x -> x.shape(2, 4));
  }

  private void shapeLetters() {
    edges.about("Promise 21", "; 5: its letters, as a mask");
    edges.answers(0, Edges.NEW, x -> x.shape(0, 5));
    for (int shape = 0; shape <= 8; shape++) {
      int asked = shape;
      edges.answers((1 << shape) - 1, States.EIGHT_COLUMNS, x -> x.shape(asked, 5));
    }
    edges.answers(1, x -> x.addNumber(A, 1), x -> x.shape(1, 5));
    edges.answers(128, x -> x.addNumber(H, 1), x -> x.shape(1, 5));
  }

  private void shapeNoSuchShape() {
    edges.about("Promise 21", "Throws `IndexOutOfBoundsException` if there is no such shape");
    edges.refused(Edges.INDEX, Edges.NEW, x -> x.shape(1, 0));
    edges.answers(2, States.TWELVE_SHAPES, x -> x.shape(11, 0));
    edges.refused(Edges.INDEX, States.TWELVE_SHAPES, x -> x.shape(12, 0));
    edges.refused(Edges.INDEX, States.TWELVE_SHAPES, x -> x.shape(Edges.LEAST, 0));
    edges.refused(Edges.INDEX, States.TWELVE_SHAPES, x -> x.shape(Edges.MOST, 0));
    edges.refused(Edges.INDEX, States.undone(States.TWELVE_SHAPES), x -> x.shape(11, 0));
  }

  private void shapeOutOfRange() {
    edges.about("Promise 21", "Throws `IllegalArgumentException` if what is not 0 to 5");
    edges.refused(Edges.ARGUMENT, States.A_ROW, x -> x.shape(2, -1));
    edges.answers(2, States.A_ROW, x -> x.shape(2, 0));
    edges.answers(3, States.A_ROW, x -> x.shape(2, 5));
    edges.refused(Edges.ARGUMENT, States.A_ROW, x -> x.shape(2, 6));
    edges.refused(Edges.ARGUMENT, States.A_ROW, x -> x.shape(2, Edges.LEAST));
    edges.refused(Edges.ARGUMENT, States.A_ROW, x -> x.shape(2, Edges.MOST));
  }

  // ---- promise 22

  private void rowReturnsTheProperty() {
    edges.about("Promise 22", "Returns the property.");
    int[] due = {2, 2, 2, 0, 600, 1200};
    for (int what = 0; what < due.length; what++) {
      int asked = what;
      edges.answers(due[what], States.FULL, x -> x.row(1, asked));
    }
  }

  private void rowReturns() {
    edges.about("Promise 22", "Returns a property of a row.");
    int[] due = {2, 2, 0, 0, 700, 700};
    for (int what = 0; what < due.length; what++) {
      int asked = what;
      edges.answers(due[what], States.A_ROW, x -> x.row(0, asked));
      edges.changesNothing(States.A_ROW, x -> x.row(0, asked));
    }
  }

  private void rowNumber() {
    edges.about("Promise 22", "`row`: its number");
    edges.refused(Edges.INDEX, States.TWELVE_ROWS, x -> x.row(-1, 4));
    edges.answers(1, States.TWELVE_ROWS, x -> x.row(0, 4));
    edges.answers(12, States.TWELVE_ROWS, x -> x.row(11, 4));
    edges.refused(Edges.INDEX, States.TWELVE_ROWS, x -> x.row(12, 4));
  }

  private void rowShape() {
    edges.about("Promise 22", "`what`: 0: its shape");
    edges.answers(0, ShapedRows::insert, x -> x.row(0, 0));
    edges.answers(4, States.FULL, x -> x.row(0, 0));
    edges.answers(2, States.FULL, x -> x.row(1, 0));
    edges.answers(3, States.FULL, x -> x.row(2, 0));
  }

  private void rowColumns() {
    edges.about("Promise 22", "; 1: its columns, how many");
    for (int shape = 0; shape <= 8; shape++) {
      int by = shape;
      Edges.Calls row = x -> {
        States.EIGHT_COLUMNS.on(x);
        x.insertBy(by);
      };
      edges.answers(shape, row, x -> x.row(0, 1));
    }
  }

  private void rowBehind() {
    edges.about("Promise 22", "; 2: how many changes it is behind the newest shape");
    for (int shape = 0; shape <= 11; shape++) {
      int by = shape;
      Edges.Calls row = x -> {
        States.TWELVE_SHAPES.on(x);
        x.insertBy(by);
      };
      edges.answers(11 - shape, row, x -> x.row(0, 2));
    }
  }

  private void rowRewritten() {
    edges.about("Promise 22", "; 3: how often it was rewritten so far (by writes, too)");
    Edges.Calls row = x -> {
      x.insert();
      x.insert();
      x.addNumber(A, 1);
      x.addNumber(B, 2);
    };
    ShapedRows x = Edges.made(row);
    edges.same(0, x.row(0, 3));
    x.write(0, 1, A, 5);
    edges.same(1, x.row(0, 3));
    x.write(0, 1, A, 6);
    edges.same(1, x.row(0, 3));
    x.goOn(1);
    edges.same(2, x.row(0, 3));
    x.goOn(2);
    edges.same(2, x.row(0, 3));
    edges.same(1, x.row(1, 3));
    x.undo();
    x.undo();
    edges.same(1, x.row(0, 3));
    edges.same(0, x.row(1, 3));
  }

  private void rowSum() {
    edges.about("Promise 22", "; 4: the sum of its values");
    edges.answers(0, ShapedRows::insert, x -> x.row(0, 4));
    Edges.Calls eight = x -> {
      States.EIGHT_COLUMNS.on(x);
      x.insert();
      for (int letter = A; letter <= H; letter++) {
        x.write(0, 8, letter, 99999);
      }
    };
    edges.answers(8 * 99999, eight, x -> x.row(0, 4));
    Edges.Calls dropped = x -> {
      States.A_ROW.on(x);
      x.drop(A, 9);
    };
    edges.answers(700, dropped, x -> x.row(0, 4));
  }

  private void rowSumByNewest() {
    edges.about("Promise 22", "; 5: the sum of its values read by the newest shape");
    edges.answers(0, ShapedRows::insert, x -> x.row(0, 5));
    Edges.Calls dropped = x -> {
      States.A_ROW.on(x);
      x.drop(A, 9);
    };
    edges.answers(400, dropped, x -> x.row(0, 5));
    Edges.Calls added = x -> {
      States.A_ROW.on(x);
      x.addCopy(C, A, B);
    };
    edges.answers(700, added, x -> x.row(0, 4));
    edges.answers(1400, added, x -> x.row(0, 5));
  }

  private void rowNoSuchRow() {
    edges.about("Promise 22", "Throws `IndexOutOfBoundsException` if there is no such row");
    edges.refused(Edges.INDEX, Edges.NEW, x -> x.row(0, 0));
    edges.answers(2, States.A_ROW, x -> x.row(0, 0));
    edges.refused(Edges.INDEX, States.A_ROW, x -> x.row(1, 0));
    edges.refused(Edges.INDEX, States.A_ROW, x -> x.row(Edges.LEAST, 0));
    edges.refused(Edges.INDEX, States.A_ROW, x -> x.row(Edges.MOST, 0));
    edges.refused(Edges.INDEX, States.oneRemoved(States.A_ROW), x -> x.row(0, 0));
  }

  private void rowOutOfRange() {
    edges.about("Promise 22", "Throws `IllegalArgumentException` if what is not 0 to 5");
    edges.refused(Edges.ARGUMENT, States.A_ROW, x -> x.row(0, -1));
    edges.answers(2, States.A_ROW, x -> x.row(0, 0));
    edges.answers(700, States.A_ROW, x -> x.row(0, 5));
    edges.refused(Edges.ARGUMENT, States.A_ROW, x -> x.row(0, 6));
    edges.refused(Edges.ARGUMENT, States.A_ROW, x -> x.row(0, Edges.LEAST));
    edges.refused(Edges.ARGUMENT, States.A_ROW, x -> x.row(0, Edges.MOST));
  }

  // ---- promise 23

  private void countReturnsTheNumber() {
    edges.about("Promise 23", "Returns the number.");
    int[] due = {3, 0, 1, 0, 0, 0, 2, 2, 0, 5};
    for (int what = 0; what < due.length; what++) {
      int asked = what;
      edges.answers(due[what], States.A_ROW, x -> x.count(asked));
    }
  }

  private void countReturns() {
    edges.about("Promise 23", "Returns a number.");
    int[] due = {5, 1, 3, 2, 1, 2, 3, 2, 1, 6};
    for (int what = 0; what < due.length; what++) {
      int asked = what;
      edges.answers(due[what], States.FULL, x -> x.count(asked));
      edges.changesNothing(States.FULL, x -> x.count(asked));
    }
  }

  private void countShapesAndMark() {
    edges.about("Promise 23", "`what`: 0: shapes; 1: the mark");
    edges.answers(1, Edges.NEW, x -> x.count(0));
    edges.answers(12, States.TWELVE_SHAPES, x -> x.count(0));
    edges.answers(0, States.TWELVE_SHAPES, x -> x.count(1));
    Edges.Calls last = x -> {
      States.TWELVE_SHAPES.on(x);
      Check.holdAll(x, 11);
      x.retire(11);
    };
    edges.answers(11, last, x -> x.count(1));
    edges.answers(12, last, x -> x.count(0));
  }

  private void countRows() {
    edges.about("Promise 23", "; 2: rows; 3: rows with an older shape than the newest one");
    edges.answers(0, States.ONE_COLUMN, x -> x.count(2));
    edges.answers(0, States.ONE_COLUMN, x -> x.count(3));
    edges.answers(12, States.TWELVE_ROWS, x -> x.count(2));
    edges.answers(0, States.TWELVE_ROWS, x -> x.count(3));
    edges.answers(12, States.oldRows(12), x -> x.count(3));
    Edges.Calls some = x -> {
      States.oldRows(12).on(x);
      x.goOn(5);
    };
    edges.answers(7, some, x -> x.count(3));
  }

  private void countCursor() {
    edges.about("Promise 23", "; 4: the cursor");
    edges.answers(0, Edges.NEW, x -> x.count(4));
    for (int rows = 1; rows <= 12; rows++) {
      int steps = rows;
      Edges.Calls gone = x -> {
        States.TWELVE_ROWS.on(x);
        x.goOn(steps);
      };
      edges.answers(rows, gone, x -> x.count(4));
    }
    Edges.Calls round = x -> {
      States.TWELVE_ROWS.on(x);
      x.goOn(12);
      x.goOn(1);
    };
    edges.answers(1, round, x -> x.count(4));
  }

  private void countRewritten() {
    edges.about("Promise 23", "; 5: rows that were rewritten so far, one by one (by writes, too)");
    ShapedRows x = Edges.made(States.oldRows(3));
    edges.same(0, x.count(5));
    x.goOn(2);
    edges.same(2, x.count(5));
    x.write(2, 1, A, 5);
    edges.same(3, x.count(5));
    x.write(2, 1, A, 6);
    edges.same(3, x.count(5));
    x.addNumber(B, 1);
    x.goOn(4);
    edges.same(6, x.count(5));
    x.remove(0);
    edges.same(6, x.count(5));
  }

  private void countWrites() {
    edges.about("Promise 23", "; 6: writes so far");
    ShapedRows x = Edges.made(States.A_ROW);
    edges.same(2, x.count(6));
    x.write(0, 2, A, 300);
    edges.same(3, x.count(6));
    Check.outcome(() -> x.write(0, 2, C, 300));
    x.goOn(1);
    x.insert();
    edges.same(3, x.count(6));
    x.remove(0);
    edges.same(3, x.count(6));
  }

  private void countColumns() {
    edges.about("Promise 23", "; 7: columns of the newest shape");
    edges.answers(0, Edges.NEW, x -> x.count(7));
    edges.answers(8, States.EIGHT_COLUMNS, x -> x.count(7));
    Edges.Calls dropped = x -> {
      States.EIGHT_COLUMNS.on(x);
      x.drop(A, 1);
    };
    edges.answers(7, dropped, x -> x.count(7));
  }

  private void countOldest() {
    edges.about("Promise 23", "; 8: the oldest shape that a row has or a reader holds");
    edges.answers(0, States.TWO_COLUMNS, x -> x.count(8));
    Edges.Calls held = x -> {
      States.A_ROW.on(x);
      Check.holdAll(x, 2);
    };
    edges.answers(2, held, x -> x.count(8));
    for (int reader = 0; reader < 4; reader++) {
      int older = reader;
      Edges.Calls one = x -> {
        held.on(x);
        x.hold(older, 1);
      };
      edges.answers(1, one, x -> x.count(8));
    }
    Edges.Calls row = x -> {
      held.on(x);
      x.insertBy(0);
    };
    edges.answers(0, row, x -> x.count(8));
    Edges.Calls noRows = x -> {
      held.on(x);
      x.addNumber(C, 1);
      x.remove(0);
    };
    edges.answers(2, noRows, x -> x.count(8));
  }

  private void countSaved() {
    edges.about("Promise 23", "; 9: saved states");
    ShapedRows x = new ShapedRows();
    edges.same(0, x.count(9));
    for (int call = 1; call <= 8; call++) {
      x.goOn(1);
      edges.same(Math.min(call, 6), x.count(9));
    }
    x.undo();
    edges.same(5, x.count(9));
  }

  private void countOutOfRange() {
    edges.about("Promise 23", "Throws `IllegalArgumentException` if what is not 0 to 9");
    edges.refused(Edges.ARGUMENT, States.FULL, x -> x.count(-1));
    edges.answers(5, States.FULL, x -> x.count(0));
    edges.answers(6, States.FULL, x -> x.count(9));
    edges.refused(Edges.ARGUMENT, States.FULL, x -> x.count(10));
    edges.refused(Edges.ARGUMENT, States.FULL, x -> x.count(Edges.LEAST));
    edges.refused(Edges.ARGUMENT, States.FULL, x -> x.count(Edges.MOST));
  }
}
