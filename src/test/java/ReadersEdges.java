/** Promises 11 and 12, sentence by sentence, on both sides of each boundary. */
final class ReadersEdges {
  private static final int A = Edges.A;

  private final Edges edges;

  ReadersEdges(Edges edges) {
    this.edges = edges;
  }

  void all() {
    hold();
    retire();
  }

  private void hold() {
    holdLetsHold();
    holdIsUndoable();
    holdReader();
    holdShape();
    holdReturns();
    holdNoSuchReaderOrShape();
    holdRetired();
  }

  private void retire() {
    retireRetires();
    retireIsUndoable();
    retireShape();
    retireReturns();
    retireNoSuchShape();
    retireRetired();
    retireRowIsOlder();
    retireReaderHoldsOlder();
  }

  // ---- promise 11

  private void holdLetsHold() {
    edges.about("Promise 11", "Lets a reader hold another shape.");
    ShapedRows x = edges.answers(0, States.A_ROW, y -> y.hold(2, 1));
    edges.same(300, x.readAs(2, 0, A));
    for (int reader = 0; reader < 4; reader++) {
      edges.same(reader == 2 ? 300 : Edges.NONE, x.readAs(reader, 0, A));
    }
    edges.same(3, x.shape(0, 3));
    edges.same(1, x.shape(1, 3));
  }

  private void holdIsUndoable() {
    edges.about("Promise 11", "Undoable.");
    edges.undoable(States.A_ROW, x -> x.hold(3, 2));
    edges.undoable(States.A_ROW, x -> x.hold(3, 0));
    edges.undoable(States.FULL, x -> x.hold(0, 4));
    edges.notUndoable(States.A_ROW, x -> x.hold(4, 0));
  }

  private void holdReader() {
    edges.about("Promise 11", "`reader`: 0 to 3");
    edges.refused(Edges.INDEX, States.A_ROW, x -> x.hold(-1, 2));
    edges.same(300, edges.answers(0, States.A_ROW, x -> x.hold(0, 2)).readAs(0, 0, A));
    edges.same(300, edges.answers(0, States.A_ROW, x -> x.hold(3, 2)).readAs(3, 0, A));
    edges.refused(Edges.INDEX, States.A_ROW, x -> x.hold(4, 2));
  }

  private void holdShape() {
    edges.about("Promise 11", "`shape`: the number of a shape that is not retired");
    edges.refused(Edges.INDEX, States.A_ROW, x -> x.hold(0, -1));
    edges.answers(0, States.A_ROW, x -> x.hold(0, 0));
    edges.answers(0, States.A_ROW, x -> x.hold(0, 2));
    edges.refused(Edges.INDEX, States.A_ROW, x -> x.hold(0, 3));
  }

  private void holdReturns() {
    edges.about("Promise 11", "Returns the shape that it held before.");
    edges.answers(0, States.A_ROW, x -> x.hold(1, 2));
    Edges.Calls held = x -> {
      States.A_ROW.on(x);
      x.hold(1, 2);
    };
    edges.answers(2, held, x -> x.hold(1, 1));
    edges.answers(2, held, x -> x.hold(1, 2));
    edges.answers(0, held, x -> x.hold(0, 2));
    edges.answers(0, States.undone(held), x -> x.hold(1, 1));
  }

  private void holdNoSuchReaderOrShape() {
    edges.about("Promise 11",
        "Throws `IndexOutOfBoundsException` if there is no such reader or shape");
    edges.refused(Edges.INDEX, States.A_ROW, x -> x.hold(Edges.LEAST, 1));
    edges.refused(Edges.INDEX, States.A_ROW, x -> x.hold(Edges.MOST, 1));
    edges.refused(Edges.INDEX, States.A_ROW, x -> x.hold(1, Edges.LEAST));
    edges.refused(Edges.INDEX, States.A_ROW, x -> x.hold(1, Edges.MOST));
    edges.refused(Edges.INDEX, Edges.NEW, x -> x.hold(0, 1));
    edges.answers(0, States.ONE_COLUMN, x -> x.hold(0, 1));
    edges.answers(0, States.TWELVE_SHAPES, x -> x.hold(0, 11));
    edges.refused(Edges.INDEX, States.TWELVE_SHAPES, x -> x.hold(0, 12));
  }

  private void holdRetired() {
    edges.about("Promise 11", ", or the shape is retired");
    edges.refused(Edges.INDEX, States.RETIRED, x -> x.hold(0, 0));
    edges.answers(1, States.RETIRED, x -> x.hold(0, 1));
    edges.answers(1, States.RETIRED, x -> x.hold(0, 2));
  }

  // ---- promise 12

  private void retireRetires() {
    edges.about("Promise 12", "Retires all shapes that are older than one.");
    ShapedRows x = edges.answers(2, allHold(2), y -> y.retire(2));
    edges.same(2, x.count(1));
    int[] retired = {1, 1, 0, 0};
    for (int shape = 0; shape < retired.length; shape++) {
      edges.same(retired[shape], x.shape(shape, 4));
    }
  }

  private void retireIsUndoable() {
    edges.about("Promise 12", "Undoable.");
    edges.undoable(allHold(2), x -> x.retire(2));
    edges.undoable(Edges.NEW, x -> x.retire(0));
    edges.undoable(States.FULL, x -> x.retire(1));
    edges.notUndoable(States.A_ROW, x -> x.retire(1));
  }

  private void retireShape() {
    edges.about("Promise 12", "`shape`: the number of a shape, not less than the mark");
    edges.refused(Edges.INDEX, States.RETIRED, x -> x.retire(0));
    edges.same(1, edges.answers(2, States.RETIRED, x -> x.retire(1)).count(1));
    edges.refused(Edges.STATE, States.RETIRED, x -> x.retire(2));
    edges.same(3, edges.answers(1, allHold(3), x -> x.retire(3)).count(1));
    edges.refused(Edges.INDEX, allHold(3), x -> x.retire(4));
  }

  private void retireReturns() {
    edges.about("Promise 12", "Returns how many shapes are not retired then.");
    edges.answers(1, Edges.NEW, x -> x.retire(0));
    edges.answers(4, allHold(3), x -> x.retire(0));
    edges.answers(3, allHold(3), x -> x.retire(1));
    edges.answers(1, allHold(3), x -> x.retire(3));
    edges.answers(12, States.TWELVE_SHAPES, x -> x.retire(0));
  }

  private void retireNoSuchShape() {
    edges.about("Promise 12", "Throws `IndexOutOfBoundsException` if there is no such shape");
    edges.refused(Edges.INDEX, allHold(3), x -> x.retire(-1));
    edges.refused(Edges.INDEX, allHold(3), x -> x.retire(4));
    edges.refused(Edges.INDEX, allHold(3), x -> x.retire(Edges.LEAST));
    edges.refused(Edges.INDEX, allHold(3), x -> x.retire(Edges.MOST));
    edges.answers(4, allHold(3), x -> x.retire(0));
  }

  private void retireRetired() {
    edges.about("Promise 12", ", or it is retired");
    Edges.Calls twice = x -> {
      allHold(3).on(x);
      x.retire(1);
      x.retire(3);
    };
    for (int shape = 0; shape < 3; shape++) {
      int retired = shape;
      edges.refused(Edges.INDEX, twice, x -> x.retire(retired));
    }
    edges.answers(1, twice, x -> x.retire(3));
    edges.answers(2, States.undone(twice), x -> x.retire(2));
  }

  private void retireRowIsOlder() {
    edges.about("Promise 12", "Throws `IllegalStateException` if a row has an older shape");
    for (int row = 0; row < 3; row++) {
      int older = row;
      Edges.Calls rows = x -> {
        allHold(3).on(x);
        for (int number = 0; number < 3; number++) {
          x.insertBy(number == older ? 1 : 3);
        }
      };
      edges.answers(3, rows, x -> x.retire(1));
      edges.refused(Edges.STATE, rows, x -> x.retire(2));
      edges.refused(Edges.STATE, rows, x -> x.retire(3));
      Edges.Calls removed = x -> {
        rows.on(x);
        x.remove(older);
      };
      edges.answers(1, removed, x -> x.retire(3));
      Edges.Calls rewritten = x -> {
        rows.on(x);
        x.goOn(3);
      };
      edges.answers(1, rewritten, x -> x.retire(3));
    }
  }

  private void retireReaderHoldsOlder() {
    edges.about("Promise 12", ", or a reader holds one");
    for (int reader = 0; reader < 4; reader++) {
      int older = reader;
      Edges.Calls held = x -> {
        allHold(3).on(x);
        x.hold(older, 1);
      };
      edges.answers(3, held, x -> x.retire(1));
      edges.refused(Edges.STATE, held, x -> x.retire(2));
      edges.refused(Edges.STATE, held, x -> x.retire(3));
      Edges.Calls newer = x -> {
        held.on(x);
        x.hold(older, 2);
      };
      edges.answers(2, newer, x -> x.retire(2));
    }
  }

  /** Three columns; the newest shape is 3; all readers hold a shape. */
  private static Edges.Calls allHold(int shape) {
    return x -> {
      States.TWO_COLUMNS.on(x);
      x.addNumber(Edges.C, 33);
      Check.holdAll(x, shape);
    };
  }
}
