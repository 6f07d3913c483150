/** What the document says under 'Terms', sentence by sentence, on both sides of each boundary. */
final class TermsEdges {
  private static final int A = Edges.A;
  private static final int B = Edges.B;
  private static final int C = Edges.C;
  private static final int D = Edges.D;
  private static final int H = Edges.H;
  private static final int NONE = Edges.NONE;

  private final Edges edges;

  TermsEdges(Edges edges) {
    this.edges = edges;
  }

  void all() {
    shapes();
    changes();
    rows();
    writing();
    readers();
    cursor();
    exceptions();
    object();
  }

  private void shapes() {
    numbersAreIntegers();
    shapesAreNumbered();
    eightColumns();
    twelveShapes();
    eachByAChange();
    sameColumns();
  }

  private void changes() {
    changeAddNumber();
    changeAddCopy();
    changeAddSum();
    changeDrop();
    changeRename();
  }

  private void rows() {
    twelveRows();
    rowsBehindMoveUp();
    rowHasValues();
    readByNewer();
    sumIsAtMost();
    droppedIsGone();
    readByOlder();
    addedIsGone();
    readByOwn();
    rewrite();
  }

  private void writing() {
    writeRewritesFirst();
    writeToTheSameColumn();
    writeIsRefused();
  }

  private void readers() {
    fourReaders();
    retiredIfOlder();
    markOnlyIf();
    retiredCannotBeUsed();
  }

  private void cursor() {
    cursorAtFirst();
    goingOnWithoutRows();
    goingOnWhenNotAtARow();
    goingOnRewrites();
    goingOnToTheNext();
  }

  private void exceptions() {
    throwingChangesNothing();
    firstNamedIsThrown();
    firstNamedOfThree();
    noneIsMinusOne();
    lettersByNumbers();
    looksChangeNothing();
    whatWouldBeChangesNothing();
  }

  private void object() {
    fiveHundredTwelveCalls();
  }

  // ---- shapes, columns

  private void numbersAreIntegers() {
    edges.about("Terms", "All numbers are integers, but for a share.");
    ShapedRows x = Edges.made(States.oldRows(3));
    x.goOn(2);
    edges.same(Double.doubleToLongBits(2.0 / 3), Double.doubleToLongBits(x.freshShare()));
    x.goOn(1);
    edges.same(Double.doubleToLongBits(1.0), Double.doubleToLongBits(x.freshShare()));
  }

  private void shapesAreNumbered() {
    edges.about("Terms", "There are shapes, numbered from 0 in the order in which they came; "
        + "the shape 0 has no columns.");
    edges.answers(0, Edges.NEW, x -> x.shape(0, 0));
    edges.answers(NONE, Edges.NEW, x -> x.column(0, 0, 0));
    edges.answers(0, States.EIGHT_COLUMNS, x -> x.shape(0, 0));
    edges.answers(1, States.EIGHT_COLUMNS, x -> x.shape(1, 0));
    ShapedRows x = new ShapedRows();
    edges.same(1, x.addNumber(A, 1));
    edges.same(2, x.addCopy(B, A, NONE));
    edges.same(3, x.drop(A, 1));
    edges.same(4, x.rename(B, C));
    x.undo();
    edges.same(4, x.addNumber(D, 1));
    edges.same(1, x.shape(4, 1));
    edges.refused(Edges.INDEX, States.TWO_COLUMNS, y -> y.shape(-1, 0));
    edges.refused(Edges.INDEX, States.TWO_COLUMNS, y -> y.shape(3, 0));
  }

  private void eightColumns() {
    edges.about("Terms", "A shape has columns in an order, at most 8, each with a letter, "
        + "\"a\" to \"h\", no two with the same.");
    edges.answers(8, States.EIGHT_COLUMNS, x -> x.count(7));
    for (int letter = A; letter <= H; letter++) {
      int taken = letter;
      edges.answers(taken, States.EIGHT_COLUMNS, x -> x.column(8, taken, 0));
      edges.refused(Edges.STATE, States.EIGHT_COLUMNS, x -> x.addNumber(taken, 1));
      edges.refused(Edges.STATE, States.EIGHT_COLUMNS, x -> x.addCopy(taken, A, NONE));
      edges.refused(Edges.STATE, States.EIGHT_COLUMNS, x -> x.addCopy(taken, A, B));
      edges.refused(Edges.STATE, States.EIGHT_COLUMNS, x -> x.rename(A, taken));
      Edges.Calls seven = x -> {
        States.EIGHT_COLUMNS.on(x);
        x.drop(taken, 1);
      };
      edges.answers(7, seven, x -> x.count(7));
      ShapedRows again = edges.answers(10, seven, x -> x.addNumber(taken, 1));
      edges.same(8, again.count(7));
      edges.same(taken, again.column(10, 7, 0));
      int other = (letter + 1) % 8;
      edges.refused(Edges.STATE, seven, x -> x.addNumber(other, 1));
    }
    edges.refused(Edges.ARGUMENT, States.EIGHT_COLUMNS, x -> x.addNumber(8, 1));
  }

  private void twelveShapes() {
    edges.about("Terms",
        "The newest shape is the one that came last; there are at most 12 shapes in all.");
    edges.answers(12, States.TWELVE_SHAPES, x -> x.count(0));
    Edges.Call[] calls = {
      x -> x.addNumber(D, 1), x -> x.addCopy(D, A, NONE), x -> x.addCopy(D, A, A),
      x -> x.drop(A, 1), x -> x.rename(A, D),
    };
    for (Edges.Call call : calls) {
      ShapedRows x = edges.answers(11, States.ELEVEN_SHAPES, call);
      x.insert();
      edges.same(11, x.row(0, 0));
      edges.same(12, x.count(0));
      edges.refused(Edges.STATE, States.TWELVE_SHAPES, call);
    }
    Edges.Calls retired = x -> {
      States.TWELVE_SHAPES.on(x);
      Check.holdAll(x, 11);
      x.retire(11);
    };
    edges.refused(Edges.STATE, retired, x -> x.addNumber(D, 1));
    edges.refused(Edges.STATE, retired, x -> x.drop(A, 1));
  }

  private void eachByAChange() {
    edges.about("Terms",
        "Each shape but the first one came from the one ahead of it by a change:");
    Edges.Calls each = x -> {
      x.addNumber(A, 1);
      x.addCopy(B, A, NONE);
      x.addCopy(C, A, A);
      x.drop(A, 1);
      x.rename(B, H);
    };
    for (int change = 0; change <= 5; change++) {
      int shape = change;
      edges.answers(change, each, x -> x.shape(shape, 1));
    }
    int[] letters = {0, 1, 3, 7, 6, 4 | 128};
    for (int ahead = 0; ahead <= 5; ahead++) {
      int shape = ahead;
      edges.answers(letters[ahead], each, x -> x.shape(shape, 5));
    }
  }

  private void changeAddNumber() {
    edges.about("Terms", "1: a column is added, behind the others, with a number, 0 to 99;");
    Edges.Calls two = x -> {
      x.addNumber(H, 1);
      x.addNumber(D, 1);
    };
    edges.same(A, edges.answers(3, two, x -> x.addNumber(A, 99)).column(3, 2, 0));
    edges.same(99, oldRow(edges.answers(3, two, x -> x.addNumber(A, 99))).read(0, 3, A));
    edges.same(0, oldRow(edges.answers(3, two, x -> x.addNumber(A, 0))).read(0, 3, A));
    edges.refused(Edges.ARGUMENT, two, x -> x.addNumber(A, 100));
    edges.refused(Edges.ARGUMENT, two, x -> x.addNumber(A, -1));
  }

  private void changeAddCopy() {
    edges.about("Terms", "2: a column is added, behind the others, as a copy of a column;");
    ShapedRows x = edges.answers(3, States.A_ROW, y -> y.addCopy(H, A, NONE));
    edges.same(H, x.column(3, 2, 0));
    edges.same(300, x.read(0, 3, H));
    x.addCopy(C, H, NONE);
    edges.same(C, x.column(4, 3, 0));
    edges.same(300, x.read(0, 4, C));
    x.write(0, 2, A, 5);
    edges.same(5, x.read(0, 4, C));
  }

  private void changeAddSum() {
    edges.about("Terms", "3: a column is added, behind the others, as the sum of two columns "
        + "(perhaps twice the same one);");
    ShapedRows x = edges.answers(3, States.A_ROW, y -> y.addCopy(H, A, B));
    edges.same(H, x.column(3, 2, 0));
    edges.same(700, x.read(0, 3, H));
    edges.same(600, edges.answers(3, States.A_ROW, y -> y.addCopy(H, A, A)).read(0, 3, H));
    edges.same(800, edges.answers(3, States.A_ROW, y -> y.addCopy(H, B, B)).read(0, 3, H));
    edges.same(700, edges.answers(3, States.A_ROW, y -> y.addCopy(H, B, A)).read(0, 3, H));
  }

  private void changeDrop() {
    edges.about("Terms",
        "4: a column is dropped, with a number, 0 to 99, that older shapes will read for it;");
    int[] numbers = {0, 99};
    for (int number : numbers) {
      ShapedRows x = edges.answers(3, States.A_ROW, y -> y.drop(A, number));
      x.insert();
      edges.same(number, x.read(1, 2, A));
      edges.same(number, x.read(1, 1, A));
      edges.same(NONE, x.read(1, 3, A));
      edges.same(300, x.read(0, 2, A));
    }
    edges.refused(Edges.ARGUMENT, States.A_ROW, y -> y.drop(A, -1));
    edges.refused(Edges.ARGUMENT, States.A_ROW, y -> y.drop(A, 100));
  }

  private void changeRename() {
    edges.about("Terms",
        "5: a column gets another letter; it stays at its place, and the same column.");
    ShapedRows x = edges.answers(3, States.A_ROW, y -> y.rename(A, H));
    edges.same(H, x.column(3, 0, 0));
    edges.same(B, x.column(3, 1, 0));
    edges.same(1, x.column(3, 0, 1));
    edges.same(0, x.column(1, 0, 2));
    edges.same(300, x.read(0, 3, H));
    edges.same(2, x.write(0, 3, H, 5));
    edges.same(5, x.read(0, 2, A));
    edges.refused(Edges.STATE, States.A_ROW, y -> y.rename(A, A));
  }

  private void sameColumns() {
    edges.about("Terms", "Columns are the same in two shapes, if the one came from the other by "
        + "changes that kept it (a column that was added anew with the same letter is "
        + "another one).");
    Edges.Calls anew = x -> {
      States.A_ROW.on(x);
      x.drop(A, 9);
      x.addNumber(A, 7);
      x.rename(B, C);
      x.insert();
    };
    edges.answers(1, anew, x -> x.column(2, 0, 1));
    edges.answers(4, anew, x -> x.column(5, 1, 1));
    edges.answers(NONE, anew, x -> x.column(2, 0, 2));
    edges.answers(0, anew, x -> x.column(2, 1, 2));
    edges.answers(7, anew, x -> x.read(0, 5, A));
    edges.answers(400, anew, x -> x.read(0, 5, C));
    edges.answers(9, anew, x -> x.read(1, 2, A));
    edges.answers(2, anew, x -> x.against(1, 2, A));
    edges.answers(0, anew, x -> x.against(1, 4, A));
    edges.answers(0, anew, x -> x.against(1, 2, B));
  }

  // ---- rows

  private void twelveRows() {
    edges.about("Rows",
        "There are at most 12 rows, numbered from 0 in the order in which they came");
    edges.answers(0, Edges.NEW, ShapedRows::insert);
    edges.answers(11, States.ELEVEN_ROWS, ShapedRows::insert);
    edges.refused(Edges.STATE, States.TWELVE_ROWS, ShapedRows::insert);
    edges.answers(11, States.ELEVEN_ROWS, x -> x.insertBy(0));
    edges.refused(Edges.STATE, States.TWELVE_ROWS, x -> x.insertBy(0));
    edges.answers(12, States.TWELVE_ROWS, x -> x.read(11, 1, A));
    edges.refused(Edges.INDEX, States.TWELVE_ROWS, x -> x.read(12, 1, A));
    edges.refused(Edges.INDEX, States.TWELVE_ROWS, x -> x.read(-1, 1, A));
  }

  private void rowsBehindMoveUp() {
    edges.about("Rows", "(if one is removed, those behind it have numbers that are less by 1).");
    for (int row = 0; row < 12; row++) {
      int gone = row;
      ShapedRows x = edges.answers(11, States.TWELVE_ROWS, y -> y.remove(gone));
      for (int left = 0; left < 11; left++) {
        edges.same(left < gone ? left + 1 : left + 2, x.read(left, 1, A));
      }
      edges.same(11, x.insert());
      edges.same(0, x.read(11, 1, A));
    }
  }

  private void rowHasValues() {
    edges.about("Rows", "A row has a shape, and a value, 0 to 99999, for each column of it.");
    Edges.Calls row = x -> {
      States.EIGHT_COLUMNS.on(x);
      x.insert();
    };
    edges.answers(8, row, x -> x.row(0, 0));
    edges.answers(8, row, x -> x.row(0, 1));
    for (int letter = A; letter <= H; letter++) {
      int of = letter;
      edges.same(0, edges.answers(8, row, x -> x.write(0, 8, of, 0)).row(0, 4));
      ShapedRows most = edges.answers(8, row, x -> x.write(0, 8, of, 99999));
      edges.same(99999, most.row(0, 4));
      edges.same(99999, most.read(0, 8, of));
      edges.refused(Edges.ARGUMENT, row, x -> x.write(0, 8, of, 100000));
      edges.refused(Edges.ARGUMENT, row, x -> x.write(0, 8, of, -1));
    }
  }

  private void readByNewer() {
    edges.about("Rows", "To read a row by a newer shape means to go through the changes between, "
        + "one after the other: an added column gets its number, or the copy, or the sum");
    Edges.Calls row = x -> {
      x.addNumber(A, 11);
      x.insertBy(0);
      x.insertBy(1);
      x.write(1, 1, A, 50);
      x.addNumber(B, 22);
      x.addCopy(C, B, NONE);
      x.addCopy(D, A, C);
      x.drop(B, 9);
      x.addCopy(B, D, D);
    };
    int[][] due = {{11, 11 + 22, 2 * (11 + 22)}, {50, 50 + 22, 2 * (50 + 22)}};
    for (int number = 0; number < 2; number++) {
      int of = number;
      edges.answers(due[of][0], row, x -> x.read(of, 6, A));
      edges.answers(22, row, x -> x.read(of, 2, B));
      edges.answers(22, row, x -> x.read(of, 6, C));
      edges.answers(due[of][1], row, x -> x.read(of, 6, D));
      edges.answers(due[of][2], row, x -> x.read(of, 6, B));
    }
  }

  private void sumIsAtMost() {
    edges.about("Rows", "(at most 99999) of the values that the row has by then;");
    int[][] sums = {
      {99998, 0, 99998}, {99998, 1, 99999}, {99998, 2, 99999}, {50000, 49999, 99999},
      {50000, 50000, 99999}, {99999, 0, 99999}, {99999, 99999, 99999}, {0, 0, 0},
    };
    for (int[] sum : sums) {
      Edges.Calls row = x -> {
        States.A_ROW.on(x);
        x.write(0, 2, A, sum[0]);
        x.write(0, 2, B, sum[1]);
        x.addCopy(C, A, B);
        x.addCopy(D, C, A);
      };
      edges.answers(sum[2], row, x -> x.read(0, 3, C));
      edges.answers(Math.min(sum[2] + sum[0], 99999), row, x -> x.read(0, 4, D));
      edges.answers(sum[0] + sum[1], row, x -> x.row(0, 4));
    }
    Edges.Calls changed = x -> {
      States.A_ROW.on(x);
      x.addCopy(C, A, B);
      x.drop(A, 9);
      x.addNumber(A, 1);
    };
    edges.answers(700, changed, x -> x.read(0, 5, C));
  }

  private void droppedIsGone() {
    edges.about("Rows", "a dropped one is gone.");
    Edges.Calls dropped = x -> {
      States.A_ROW.on(x);
      x.drop(A, 9);
    };
    edges.answers(300, dropped, x -> x.read(0, 2, A));
    edges.answers(NONE, dropped, x -> x.read(0, 3, A));
    edges.answers(400, dropped, x -> x.read(0, 3, B));
    edges.answers(400, dropped, x -> x.row(0, 5));
    edges.answers(0, dropped, x -> x.find(3, A, 300));
  }

  private void readByOlder() {
    edges.about("Rows", "To read it by an older shape means to go through the changes backwards: "
        + "a dropped column comes back, at its place, with the number of its drop;");
    Edges.Calls row = x -> {
      x.addNumber(A, 11);
      x.addNumber(B, 22);
      x.addNumber(C, 33);
      x.drop(B, 44);
      x.rename(C, B);
      x.drop(A, 55);
      x.insert();
      x.write(0, 6, B, 700);
    };
    edges.answers(700, row, x -> x.read(0, 6, B));
    edges.answers(700, row, x -> x.read(0, 5, B));
    edges.answers(55, row, x -> x.read(0, 5, A));
    edges.answers(700, row, x -> x.read(0, 4, C));
    edges.answers(55, row, x -> x.read(0, 3, A));
    edges.answers(44, row, x -> x.read(0, 3, B));
    edges.answers(700, row, x -> x.read(0, 3, C));
    edges.answers(55, row, x -> x.read(0, 1, A));
    ShapedRows older = edges.answers(1, row, x -> x.column(3, 1, 0));
    edges.same(B, older.column(3, 1, 0));
    edges.same(C, older.column(3, 2, 0));
  }

  private void addedIsGone() {
    edges.about("Rows", "an added one is gone.");
    edges.answers(NONE, States.A_ROW, x -> x.read(0, 1, B));
    edges.answers(NONE, States.A_ROW, x -> x.read(0, 0, A));
    edges.answers(300, States.A_ROW, x -> x.read(0, 1, A));
    edges.answers(0, States.A_ROW, x -> x.find(1, B, 400));
    edges.answers(1, States.A_ROW, x -> x.find(2, B, 400));
    edges.answers(1, States.A_ROW, x -> x.lost(0, 1));
  }

  private void readByOwn() {
    edges.about("Rows", "So a row read by its own shape has its values.");
    Edges.Calls own = x -> {
      States.A_ROW.on(x);
      x.addCopy(C, A, B);
      x.insert();
      x.write(1, 3, C, 5);
      x.drop(C, 8);
    };
    edges.answers(300, own, x -> x.read(0, 2, A));
    edges.answers(400, own, x -> x.read(0, 2, B));
    edges.answers(0, own, x -> x.read(1, 3, A));
    edges.answers(5, own, x -> x.read(1, 3, C));
    edges.answers(0, own, x -> x.lost(0, 2));
    edges.answers(0, own, x -> x.lost(1, 3));
  }

  private void rewrite() {
    edges.about("Rows", "To rewrite a row in a shape means that it gets the values that it has "
        + "read by it, and this shape.");
    Edges.Calls rewritten = x -> {
      States.A_ROW.on(x);
      x.addCopy(C, A, B);
      x.drop(A, 9);
      x.goOn(1);
    };
    edges.answers(4, rewritten, x -> x.row(0, 0));
    edges.answers(400, rewritten, x -> x.read(0, 4, B));
    edges.answers(700, rewritten, x -> x.read(0, 4, C));
    edges.answers(9, rewritten, x -> x.read(0, 3, A));
    edges.answers(9, rewritten, x -> x.read(0, 2, A));
    Edges.Calls further = x -> {
      rewritten.on(x);
      x.write(0, 4, C, 5);
    };
    edges.answers(5, further, x -> x.read(0, 3, C));
    edges.answers(300, States.undone(States.undone(further)), x -> x.read(0, 3, A));
  }

  // ---- writing

  private void writeRewritesFirst() {
    edges.about("Writing", "To write a value into a column of a row, by a shape: if the shape of "
        + "the row is older, and does not have this column, the row is rewritten in the shape of "
        + "the writer first.");
    Edges.Calls older = x -> {
      States.A_ROW.on(x);
      x.addCopy(C, A, B);
      x.drop(B, 9);
      x.addNumber(D, 5);
    };
    ShapedRows x = edges.answers(4, older, y -> y.write(0, 4, C, 1));
    edges.same(4, x.row(0, 0));
    edges.same(1, x.row(0, 3));
    edges.same(1, x.count(5));
    edges.same(1, x.read(0, 4, C));
    edges.same(300, x.read(0, 4, A));
    edges.same(9, x.read(0, 2, B));
    edges.same(3, edges.answers(3, older, y -> y.write(0, 3, C, 1)).row(0, 0));
    edges.same(5, edges.answers(5, older, y -> y.write(0, 5, C, 1)).row(0, 0));
    edges.same(0, edges.answers(2, older, y -> y.write(0, 5, A, 1)).count(5));
    edges.same(0, edges.answers(2, older, y -> y.write(0, 3, B, 1)).count(5));
    edges.same(0, edges.answers(2, older, y -> y.write(0, 2, B, 1)).count(5));
  }

  private void writeToTheSameColumn() {
    edges.about("Writing", "If the row has the column then (the same, whatever its letter), "
        + "the value is written;");
    Edges.Calls swapped = x -> {
      States.A_ROW.on(x);
      x.rename(A, C);
      x.rename(B, A);
      x.rename(C, B);
      x.insert();
    };
    edges.same(5, edges.answers(2, swapped, x -> x.write(0, 5, B, 5)).read(0, 2, A));
    edges.same(5, edges.answers(2, swapped, x -> x.write(0, 5, A, 5)).read(0, 2, B));
    edges.same(5, edges.answers(2, swapped, x -> x.write(0, 2, A, 5)).read(0, 2, A));
    edges.same(5, edges.answers(5, swapped, x -> x.write(1, 2, A, 5)).read(1, 5, B));
    edges.same(5, edges.answers(5, swapped, x -> x.write(1, 3, C, 5)).read(1, 5, B));
    edges.same(5, edges.answers(5, swapped, x -> x.write(1, 4, A, 5)).read(1, 5, A));
    edges.same(0, edges.answers(5, swapped, x -> x.write(1, 4, A, 5)).count(5));
  }

  private void writeIsRefused() {
    edges.about("Writing", "otherwise the write is refused.");
    Edges.Calls anew = x -> {
      States.TWO_COLUMNS.on(x);
      x.drop(A, 9);
      x.addNumber(A, 7);
      x.insert();
      x.insertBy(3);
      x.insertBy(2);
    };
    edges.refused(Edges.STATE, anew, x -> x.write(0, 2, A, 5));
    edges.refused(Edges.STATE, anew, x -> x.write(1, 2, A, 5));
    edges.refused(Edges.STATE, anew, x -> x.write(1, 1, A, 5));
    edges.answers(2, anew, x -> x.write(2, 2, A, 5));
    edges.answers(2, anew, x -> x.write(2, 1, A, 5));
    edges.answers(4, anew, x -> x.write(0, 4, A, 5));
    edges.answers(4, anew, x -> x.write(1, 4, A, 5));
    edges.answers(4, anew, x -> x.write(2, 4, A, 5));
    edges.answers(4, anew, x -> x.write(0, 2, B, 5));
  }

  // ---- readers, retiring

  private void fourReaders() {
    edges.about("Writing",
        "There are 4 readers, numbered from 0; each holds a shape, at first the shape 0.");
    edges.answers(4, Edges.NEW, x -> x.shape(0, 3));
    edges.answers(4, States.A_ROW, x -> x.shape(0, 3));
    for (int reader = 0; reader < 4; reader++) {
      int of = reader;
      edges.answers(0, States.A_ROW, x -> x.hold(of, 2));
      edges.answers(NONE, States.A_ROW, x -> x.readAs(of, 0, A));
    }
    edges.refused(Edges.INDEX, States.A_ROW, x -> x.hold(-1, 2));
    edges.refused(Edges.INDEX, States.A_ROW, x -> x.hold(4, 2));
    edges.refused(Edges.INDEX, States.A_ROW, x -> x.readAs(-1, 0, A));
    edges.refused(Edges.INDEX, States.A_ROW, x -> x.readAs(4, 0, A));
  }

  private void retiredIfOlder() {
    edges.about("Writing", "A shape is retired if it is older than a mark, at first 0.");
    edges.answers(0, States.TWO_COLUMNS, x -> x.count(1));
    edges.answers(0, States.TWO_COLUMNS, x -> x.shape(0, 4));
    for (int mark = 0; mark <= 11; mark++) {
      int at = mark;
      Edges.Calls retired = x -> {
        States.TWELVE_SHAPES.on(x);
        Check.holdAll(x, 11);
        x.retire(at);
      };
      for (int shape = 0; shape <= 11; shape++) {
        int of = shape;
        edges.answers(shape < mark ? 1 : 0, retired, x -> x.shape(of, 4));
      }
    }
  }

  private void markOnlyIf() {
    edges.about("Writing", "The mark can be set to a shape only if no row has an older shape, "
        + "and no reader holds one.");
    Edges.Calls both = x -> {
      States.TWO_COLUMNS.on(x);
      x.insertBy(1);
      Check.holdAll(x, 1);
    };
    edges.same(1, edges.answers(2, both, x -> x.retire(1)).count(1));
    edges.refused(Edges.STATE, both, x -> x.retire(2));
    Edges.Calls held = x -> {
      both.on(x);
      x.goOn(1);
    };
    edges.refused(Edges.STATE, held, x -> x.retire(2));
    Edges.Calls had = x -> {
      both.on(x);
      Check.holdAll(x, 2);
    };
    edges.refused(Edges.STATE, had, x -> x.retire(2));
    Edges.Calls neither = x -> {
      had.on(x);
      x.goOn(1);
    };
    edges.same(2, edges.answers(1, neither, x -> x.retire(2)).count(1));
  }

  private void retiredCannotBeUsed() {
    edges.about("Writing", "Retired shapes cannot be used by anything but looks at their columns.");
    Edges.Call[] calls = {
      x -> x.insertBy(1), x -> x.write(0, 1, A, 5), x -> x.hold(0, 1), x -> x.retire(1),
      x -> x.read(0, 1, A), x -> x.lost(0, 1), x -> x.against(0, 1, A), x -> x.find(1, A, 300),
    };
    Edges.Calls retired = x -> {
      States.A_ROW.on(x);
      Check.holdAll(x, 2);
      x.retire(2);
    };
    Edges.Calls notYet = x -> {
      States.A_ROW.on(x);
      Check.holdAll(x, 2);
      x.retire(1);
    };
    for (Edges.Call call : calls) {
      edges.refused(Edges.INDEX, retired, call);
      edges.isTrue(Check.outcome(() -> call.on(Edges.made(notYet))).startsWith("answers"));
    }
    edges.answers(A, retired, x -> x.column(1, 0, 0));
    edges.answers(1, retired, x -> x.column(1, 0, 1));
    edges.answers(0, retired, x -> x.column(1, 0, 2));
    edges.answers(1, retired, x -> x.shape(1, 0));
    edges.answers(1, retired, x -> x.shape(1, 5));
    edges.answers(1, retired, x -> x.shape(1, 4));
  }

  // ---- the cursor

  private void cursorAtFirst() {
    edges.about("The cursor", "There is a cursor, at first at the row 0.");
    edges.answers(0, Edges.NEW, x -> x.count(4));
    edges.answers(0, States.TWELVE_ROWS, x -> x.count(4));
    ShapedRows x = edges.answers(1, States.oldRows(3), y -> y.goOn(1));
    edges.same(1, x.row(0, 3));
    edges.same(0, x.row(1, 3));
  }

  private void goingOnWithoutRows() {
    edges.about("The cursor",
        "To go on by some rows means, for each: if there are no rows, nothing;");
    edges.same(0, edges.answers(0, Edges.NEW, x -> x.goOn(1)).count(4));
    edges.same(0, edges.answers(0, Edges.NEW, x -> x.goOn(12)).count(4));
    edges.same(1, edges.answers(0, ShapedRows::insert, x -> x.goOn(1)).count(4));
    Edges.Calls removed = x -> {
      x.insert();
      x.insert();
      x.goOn(2);
      x.remove(0);
      x.remove(0);
    };
    edges.answers(0, removed, x -> x.count(4));
    edges.same(0, edges.answers(0, removed, x -> x.goOn(3)).count(4));
  }

  private void goingOnWhenNotAtARow() {
    edges.about("The cursor", "otherwise, if the cursor is not at a row, it goes to the row 0;");
    Edges.Calls behind = x -> {
      x.insert();
      x.insert();
      x.insert();
      x.goOn(3);
      x.addNumber(A, 1);
    };
    ShapedRows x = edges.answers(1, behind, y -> y.goOn(1));
    edges.same(1, x.row(0, 3));
    edges.same(1, x.count(4));
    Edges.Calls atANewRow = y -> {
      behind.on(y);
      y.insertBy(0);
    };
    x = edges.answers(1, atANewRow, y -> y.goOn(1));
    edges.same(0, x.row(0, 3));
    edges.same(1, x.row(3, 3));
    edges.same(4, x.count(4));
    Edges.Calls lastRemoved = y -> {
      y.insert();
      y.insert();
      y.insert();
      y.goOn(2);
      y.addNumber(A, 1);
      y.remove(2);
    };
    x = edges.answers(1, lastRemoved, y -> y.goOn(1));
    edges.same(1, x.row(0, 3));
    edges.same(1, x.count(4));
  }

  private void goingOnRewrites() {
    edges.about("The cursor", "then the row at the cursor is rewritten in the newest shape, "
        + "if it has an older one,");
    Edges.Calls mixed = x -> {
      States.TWO_COLUMNS.on(x);
      x.insertBy(0);
      x.insertBy(2);
      x.insertBy(1);
    };
    ShapedRows x = edges.answers(2, mixed, y -> y.goOn(3));
    int[] rewrites = {1, 0, 1};
    int[] sums = {33, 0, 22};
    for (int row = 0; row < 3; row++) {
      edges.same(2, x.row(row, 0));
      edges.same(rewrites[row], x.row(row, 3));
      edges.same(sums[row], x.row(row, 4));
    }
    edges.same(2, x.count(5));
    edges.same(0, x.count(6));
  }

  private void goingOnToTheNext() {
    edges.about("The cursor", "and the cursor goes to the next number.");
    for (int steps = 1; steps <= 12; steps++) {
      int by = steps;
      edges.same(steps, edges.answers(0, States.TWELVE_ROWS, x -> x.goOn(by)).count(4));
      ShapedRows five = edges.answers(0, x -> States.rows(x, 5), x -> x.goOn(by));
      edges.same((steps - 1) % 5 + 1, five.count(4));
      edges.same(1, edges.answers(0, ShapedRows::insert, x -> x.goOn(by)).count(4));
    }
  }

  // ---- exceptions

  private void throwingChangesNothing() {
    edges.about("Exceptions", "A call that throws an exception changes nothing.");
    Edges.Call[] arguments = {
      x -> x.addNumber(8, 5), x -> x.addNumber(A, 100), x -> x.addCopy(8, B, C),
      x -> x.addCopy(A, 8, C), x -> x.addCopy(A, B, 8), x -> x.drop(8, 5), x -> x.drop(B, 100),
      x -> x.rename(8, A), x -> x.rename(B, 8), x -> x.write(0, 4, 8, 5),
      x -> x.write(0, 4, B, 100000), x -> x.goOn(0), x -> x.goOn(13), x -> x.append(32),
      ShapedRows::run, x -> x.read(0, 4, 8), x -> x.readAs(0, 0, 8), x -> x.column(4, -1, 0),
      x -> x.column(4, 0, 3), x -> x.shape(4, 6), x -> x.row(0, 6), x -> x.count(10),
      x -> x.against(0, 4, 8), x -> x.find(4, 8, 5), x -> x.find(4, B, 100000),
    };
    Edges.Call[] states = {
      x -> x.addNumber(B, 5), x -> x.addCopy(B, B, C), x -> x.addCopy(A, D, C), x -> x.drop(A, 5),
      x -> x.rename(A, D), x -> x.rename(B, C), x -> x.write(0, 4, A, 5), x -> x.write(0, 1, A, 5),
      x -> x.retire(2), x -> x.retire(4),
    };
    Edges.Call[] indexes = {
      x -> x.insertBy(0), x -> x.insertBy(5), x -> x.write(3, 4, B, 5), x -> x.write(0, 0, B, 5),
      x -> x.remove(3), x -> x.hold(4, 1), x -> x.hold(0, 0), x -> x.retire(0), x -> x.retire(5),
      x -> x.read(3, 4, B), x -> x.read(0, 0, B), x -> x.readAs(4, 0, B), x -> x.readAs(0, 3, B),
      x -> x.column(5, 0, 0), x -> x.shape(5, 0), x -> x.row(3, 0), x -> x.lost(3, 4),
      x -> x.lost(0, 0), x -> x.against(3, 4, B), x -> x.against(0, 5, B), x -> x.find(0, B, 5),
    };
    refusedAll(Edges.ARGUMENT, arguments);
    refusedAll(Edges.STATE, states);
    refusedAll(Edges.INDEX, indexes);
    edges.refused(Edges.STATE, States.TWELVE_ROWS, ShapedRows::insert);
    edges.refused(Edges.STATE, States.TWELVE_ROWS, x -> x.insertBy(1));
    edges.refused(Edges.STATE, Edges.NEW, ShapedRows::undo);
    edges.refused(Edges.STATE, TermsEdges::fillBuffer, x -> x.append('n'));
  }

  private void refusedAll(Class<? extends RuntimeException> due, Edges.Call[] calls) {
    for (Edges.Call call : calls) {
      edges.refused(due, States.FULL, call);
    }
  }

  private void firstNamedIsThrown() {
    edges.about("Exceptions", "If several exceptions apply, "
        + "the one that is named first in the throws clause is thrown.");
    Edges.Calls all = x -> {
      States.TWELVE_SHAPES.on(x);
      for (int row = 0; row < 12; row++) {
        x.insert();
      }
      fillBuffer(x);
    };
    edges.refused(Edges.ARGUMENT, all, x -> x.addNumber(A, 100));
    edges.refused(Edges.STATE, all, x -> x.addNumber(A, 99));
    edges.refused(Edges.ARGUMENT, all, x -> x.addCopy(A, D, 8));
    edges.refused(Edges.STATE, all, x -> x.addCopy(A, D, 7));
    edges.refused(Edges.ARGUMENT, all, x -> x.drop(D, 100));
    edges.refused(Edges.STATE, all, x -> x.drop(D, 99));
    edges.refused(Edges.ARGUMENT, all, x -> x.rename(D, 8));
    edges.refused(Edges.STATE, all, x -> x.rename(D, 7));
    edges.refused(Edges.INDEX, all, x -> x.insertBy(12));
    edges.refused(Edges.STATE, all, x -> x.insertBy(11));
    edges.refused(Edges.INDEX, all, x -> x.retire(12));
    edges.refused(Edges.STATE, all, x -> x.retire(11));
    edges.refused(Edges.ARGUMENT, all, x -> x.append(127));
    edges.refused(Edges.STATE, all, x -> x.append(126));
    edges.refused(Edges.INDEX, all, x -> x.read(0, 12, 8));
    edges.refused(Edges.ARGUMENT, all, x -> x.read(0, 11, 8));
    edges.refused(Edges.INDEX, all, x -> x.readAs(0, 12, 8));
    edges.refused(Edges.ARGUMENT, all, x -> x.readAs(0, 11, 8));
    edges.refused(Edges.INDEX, all, x -> x.column(12, -1, 3));
    edges.refused(Edges.ARGUMENT, all, x -> x.column(11, -1, 2));
    edges.refused(Edges.INDEX, all, x -> x.shape(12, 6));
    edges.refused(Edges.ARGUMENT, all, x -> x.shape(11, 6));
    edges.refused(Edges.INDEX, all, x -> x.row(12, 6));
    edges.refused(Edges.ARGUMENT, all, x -> x.row(11, 6));
    edges.refused(Edges.INDEX, all, x -> x.against(12, 11, 8));
    edges.refused(Edges.ARGUMENT, all, x -> x.against(11, 11, 8));
    edges.refused(Edges.INDEX, all, x -> x.find(12, 8, -1));
    edges.refused(Edges.ARGUMENT, all, x -> x.find(11, 8, -1));
  }

  private void firstNamedOfThree() {
    edges.about("Promise 8", "Throws `IndexOutOfBoundsException` if there is no such row or shape, "
        + "or the shape is retired");
    Edges.Calls gone = x -> {
      States.RETIRED.on(x);
      x.drop(A, 9);
      x.insert();
    };
    int[] wrongValues = {-1, 100000};
    for (int value : wrongValues) {
      edges.refused(Edges.INDEX, gone, x -> x.write(2, 2, 8, value));
      edges.refused(Edges.INDEX, gone, x -> x.write(1, 4, 8, value));
      edges.refused(Edges.INDEX, gone, x -> x.write(1, 0, A, value));
      edges.refused(Edges.INDEX, gone, x -> x.write(2, 2, C, value));
      edges.refused(Edges.ARGUMENT, gone, x -> x.write(1, 2, A, value));
      edges.refused(Edges.ARGUMENT, gone, x -> x.write(1, 2, C, value));
    }
    edges.refused(Edges.INDEX, gone, x -> x.write(2, 2, A, 5));
    edges.refused(Edges.INDEX, gone, x -> x.write(1, 0, A, 5));
    edges.refused(Edges.ARGUMENT, gone, x -> x.write(1, 2, 8, 5));
    edges.refused(Edges.STATE, gone, x -> x.write(1, 2, A, 5));
    edges.refused(Edges.STATE, gone, x -> x.write(1, 2, C, 5));
    edges.answers(3, gone, x -> x.write(1, 2, B, 5));
  }

  private void noneIsMinusOne() {
    edges.about("Exceptions", "The constants: `NONE = -1`: There is nothing to return.");
    edges.same(-1, ShapedRows.NONE);
    edges.answers(-1, States.A_ROW, x -> x.read(0, 2, H));
    edges.answers(-1, States.A_ROW, x -> x.readAs(0, 0, A));
    edges.answers(-1, States.A_ROW, x -> x.column(0, 0, 0));
  }

  private void lettersByNumbers() {
    edges.about("Exceptions",
        "shapes; letters are told by numbers, 0 for \"a\" to 7 for \"h\".");
    for (int letter = A; letter <= H; letter++) {
      char sign = (char) ('a' + letter);
      ShapedRows x = new ShapedRows();
      Check.run(x, "+" + sign + "=5");
      edges.same(letter, x.column(1, 0, 0));
      edges.same(1 << letter, x.shape(1, 5));
    }
    edges.refused(Edges.ARGUMENT, Edges.NEW, x -> x.addNumber(-1, 5));
    edges.refused(Edges.ARGUMENT, Edges.NEW, x -> x.addNumber(8, 5));
  }

  private void looksChangeNothing() {
    edges.about("Exceptions", "looks; nothing is changed.");
    for (int shape = 0; shape <= 4; shape++) {
      int of = shape;
      for (int number = 0; number <= 9; number++) {
        int what = number;
        edges.changesNothing(States.FULL, x -> x.read(what % 3, of, what % 8));
        edges.changesNothing(States.FULL, x -> x.readAs(what % 4, what % 3, of));
        edges.changesNothing(States.FULL, x -> x.column(of, what / 3, what % 3));
        edges.changesNothing(States.FULL, x -> x.shape(of, what));
        edges.changesNothing(States.FULL, x -> x.row(of, what));
        edges.changesNothing(States.FULL, x -> x.count(what));
      }
    }
  }

  private void whatWouldBeChangesNothing() {
    edges.about("Exceptions", "what would be; nothing is changed.");
    for (int shape = 0; shape <= 4; shape++) {
      int of = shape;
      for (int row = 0; row <= 3; row++) {
        int number = row;
        edges.changesNothing(States.FULL, x -> x.lost(number, of));
        edges.changesNothing(States.FULL, x -> x.against(number, of, B));
        edges.changesNothing(States.FULL, x -> x.find(of, number, 500));
      }
    }
    edges.changesNothing(States.FULL, ShapedRows::toGo);
    edges.changesNothing(States.FULL, x -> (long) x.freshShare());
    edges.changesNothing(States.FULL, ShapedRows::digest);
  }

  // ---- the object

  private void fiveHundredTwelveCalls() {
    edges.about("What it is", "An object is used for at most 512 calls after it has been made;");
    ShapedRows x = new ShapedRows();
    x.addNumber(A, 5);
    x.insertBy(0);
    for (int round = 0; round < 127; round++) {
      edges.same(1, x.write(0, 1, A, round));
      edges.same(round, x.read(0, 1, A));
      edges.same(0, x.goOn(1));
      edges.same(Math.min(3 + 2 * round + 1, 6), x.count(9));
    }
    edges.same(127, x.count(6));
    edges.same(1, x.row(0, 3));
  }

  private static ShapedRows oldRow(ShapedRows x) {
    x.insertBy(0);
    return x;
  }

  private static void fillBuffer(ShapedRows x) {
    for (int length = 1; length <= 60; length++) {
      x.append('n');
    }
  }
}
