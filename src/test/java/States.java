/** States from which the tests of the document's sentences begin. */
final class States {
  /** The column "a" alone, from the shape 1 on; no rows. */
  static final Edges.Calls ONE_COLUMN = x -> x.addNumber(Edges.A, 11);

  /** "a" and "b", the newest shape is 2; no rows. */
  static final Edges.Calls TWO_COLUMNS = x -> {
    x.addNumber(Edges.A, 11);
    x.addNumber(Edges.B, 22);
  };

  /** "a" and "b", and a row of the newest shape 2 with the values 300 and 400. */
  static final Edges.Calls A_ROW = x -> {
    TWO_COLUMNS.on(x);
    x.insert();
    x.write(0, 2, Edges.A, 300);
    x.write(0, 2, Edges.B, 400);
  };

  /** "a" and "b"; all readers hold the shape 1, which is the mark; a row of the shape 2. */
  static final Edges.Calls RETIRED = x -> {
    TWO_COLUMNS.on(x);
    Check.holdAll(x, 1);
    x.retire(1);
    x.insert();
  };

  /** All eight letters; the newest shape is 8. */
  static final Edges.Calls EIGHT_COLUMNS = x -> {
    for (int letter = Edges.A; letter <= Edges.H; letter++) {
      x.addNumber(letter, 10 + letter);
    }
  };

  /** "a" and "b" in the newest shape, which is 10: the eleventh one. */
  static final Edges.Calls ELEVEN_SHAPES = x -> {
    TWO_COLUMNS.on(x);
    renames(x, 8);
  };

  /** "a" and "c" in the newest shape, which is 11: the twelfth one. */
  static final Edges.Calls TWELVE_SHAPES = x -> {
    TWO_COLUMNS.on(x);
    renames(x, 9);
  };

  static final Edges.Calls ELEVEN_ROWS = x -> rows(x, 11);

  static final Edges.Calls TWELVE_ROWS = x -> rows(x, 12);

  /** Something of all there is, and six saved states; the cursor is at the row 1. */
  static final Edges.Calls FULL = x -> {
    x.addNumber(Edges.A, 11);
    x.addNumber(Edges.B, 22);
    x.addCopy(Edges.C, Edges.A, Edges.B);
    Check.holdAll(x, 1);
    x.hold(3, 2);
    x.insertBy(1);
    x.insertBy(2);
    x.insertBy(1);
    x.write(0, 1, Edges.A, 500);
    x.drop(Edges.A, 33);
    x.retire(1);
    x.goOn(1);
    x.write(1, 2, Edges.B, 600);
    x.write(2, 3, Edges.C, 700);
    Check.type(x, "n;+x");
  };

  private States() {}

  /** Rows of the shape 1, with the values 1, 2, 3 and so on in its only column. */
  static void rows(ShapedRows x, int rows) {
    x.addNumber(Edges.A, 11);
    for (int row = 0; row < rows; row++) {
      x.insert();
      x.write(row, 1, Edges.A, row + 1);
    }
  }

  /** Rows of the shape 0, while the newest one is the shape 1. */
  static Edges.Calls oldRows(int rows) {
    return x -> {
      x.addNumber(Edges.A, 11);
      for (int row = 0; row < rows; row++) {
        x.insertBy(0);
      }
    };
  }

  static Edges.Calls undone(Edges.Calls calls) {
    return x -> {
      calls.on(x);
      x.undo();
    };
  }

  static Edges.Calls oneRemoved(Edges.Calls calls) {
    return x -> {
      calls.on(x);
      x.remove(0);
    };
  }

  /** The second column goes from "b" to "c" and back. */
  private static void renames(ShapedRows x, int times) {
    for (int time = 0; time < times; time++) {
      boolean forth = time % 2 == 0;
      x.rename(forth ? Edges.B : Edges.C, forth ? Edges.C : Edges.B);
    }
  }
}
