/** The input text and undo, and the promises 13 to 17, sentence by sentence. */
final class TextEdges {
  private static final int A = Edges.A;
  private static final int B = Edges.B;
  private static final int C = Edges.C;
  private static final int D = Edges.D;
  private static final int H = Edges.H;

  private final Edges edges;

  TextEdges(Edges edges) {
    this.edges = edges;
  }

  void all() {
    inputText();
    forms();
    undoSaves();
    append();
    clearBuffer();
    firstError();
    run();
    undo();
  }

  private void inputText() {
    sixtyCharacters();
    oneOrMoreOrders();
    lettersOfOrders();
    noLeadingZeros();
    leftToRight();
    whatIsASyntaxError();
    ofAnyLength();
  }

  private void forms() {
    formOfNumber();
    formOfCopy();
    formOfSum();
    formOfDrop();
    formOfRename();
    formOfRow();
    formOfGoingOn();
  }

  private void undoSaves() {
    eachUndoableSaves();
    whatThrowsSavesNothing();
    whatChangesNothingSavesToo();
    savesAllCounted();
    notTheBuffer();
    notTheSavedStates();
    sixStatesAtMost();
    oldestIsDropped();
  }

  private void append() {
    appendAppends();
    appendCode();
    appendReturns();
    appendOutOfRange();
    appendFull();
  }

  private void clearBuffer() {
    clearBufferClears();
    clearBufferReturns();
  }

  private void firstError() {
    firstErrorFinds();
    firstErrorIndex();
    firstErrorNone();
  }

  private void run() {
    runCarriesOut();
    runStopsAtTheFirst();
    runClears();
    runIsUndoableAsOne();
    runReturns();
    runNotComplete();
  }

  private void undo() {
    undoRestores();
    undoReturns();
    undoNone();
  }

  // ---- the input text

  private void sixtyCharacters() {
    edges.about("Input text", "The buffer has at most 60 characters.");
    edges.answers(60, typed(rows(30)), x -> x.append(';'));
    edges.refused(Edges.STATE, typed(rows(30) + ";"), x -> x.append('n'));
    reads(rows(30), 59, true);
    reads(rows(30) + ";", 60, false);
    edges.answers(59, typed(rows(30)), ShapedRows::clearBuffer);
    edges.answers(60, typed(rows(30) + ";"), ShapedRows::clearBuffer);
  }

  private void oneOrMoreOrders() {
    edges.about("Input text", "Orders as a text are one or more orders with \";\" between them:");
    reads("", 0, false);
    reads("n", 1, true);
    reads("n;n", 3, true);
    reads("n;>ab;*3;+a=5;-b=9;+c:d;+e:f+g;n", 32, true);
    reads(";", 0, false);
    reads(";n", 0, false);
    reads("n;", 2, false);
    reads("n;;n", 2, false);
    reads("nn", 1, false);
    reads("n,n", 1, false);
    String[] whole = {"+a=5", "+a=55", "+a:b", "+a:b+c", "-a=5", "-a=55", ">ab", "n", "*1", "*12"};
    for (String order : whole) {
      reads(order + ";n", order.length() + 2, true);
      reads("n;" + order, order.length() + 2, true);
    }
    String[] parts = {"+", "+a", "+a=", "+a:", "+a:b+", "-", "-a", "-a=", ">", ">a", "*"};
    for (String part : parts) {
      reads(part, part.length(), false);
      reads(part + ";n", part.length(), false);
    }
  }

  private void formOfNumber() {
    edges.about("Input text", "\"+\", a letter, \"=\", and a number, 0 to 99 (change 1);");
    reads("+a=0", 4, true);
    reads("+a=9", 4, true);
    reads("+a=10", 5, true);
    reads("+h=99", 5, true);
    reads("+a=100", 5, false);
    reads("+a=-1", 3, false);
    reads("+a5", 2, false);
    reads("+=5", 1, false);
    reads("+a=b", 3, false);
    reads("a=5", 0, false);
    reads("+a=5+", 4, false);
    edges.same(1, Edges.made(ran("+a=5")).shape(1, 1));
  }

  private void formOfCopy() {
    edges.about("Input text", "\"+\", a letter, \":\", a letter (change 2)");
    reads("+a:b", 4, true);
    reads("+h:a", 4, true);
    reads("+a:a", 4, true);
    reads("+a:", 3, false);
    reads("+:b", 1, false);
    reads("+ab", 2, false);
    reads("+a:5", 3, false);
    reads("+a:bc", 4, false);
    reads("+a;b", 2, false);
    edges.same(2, Edges.made(ran("+a=5;+b:a")).shape(2, 1));
  }

  private void formOfSum() {
    edges.about("Input text", ", and perhaps \"+\" and a letter (change 3);");
    reads("+a:b+c", 6, true);
    reads("+a:b+b", 6, true);
    reads("+a:b+", 5, false);
    reads("+a:b+i", 5, false);
    reads("+a:b+c+d", 6, false);
    reads("+a:b-c", 4, false);
    reads("+a=1+c", 4, false);
    edges.same(3, Edges.made(ran("+a=5;+b:a+a")).shape(2, 1));
  }

  private void formOfDrop() {
    edges.about("Input text", "\"-\", a letter, \"=\", and a number, 0 to 99 (change 4);");
    reads("-a=0", 4, true);
    reads("-a=9", 4, true);
    reads("-a=10", 5, true);
    reads("-h=99", 5, true);
    reads("-a=100", 5, false);
    reads("-a", 2, false);
    reads("-a;", 2, false);
    reads("-a:b", 2, false);
    reads("-=5", 1, false);
    edges.same(4, Edges.made(ran("+a=5;-a=6")).shape(2, 1));
  }

  private void formOfRename() {
    edges.about("Input text",
        "\">\", a letter, and a letter (change 5, the former and the new one);");
    reads(">ab", 3, true);
    reads(">ha", 3, true);
    reads(">aa", 3, true);
    reads(">a", 2, false);
    reads(">a;", 2, false);
    reads(">abc", 3, false);
    reads(">a=b", 2, false);
    ShapedRows x = Edges.made(ran("+a=5;+b=6;>ah"));
    edges.same(5, x.shape(3, 1));
    edges.same(H, x.column(3, 0, 0));
    edges.same(1, Edges.made(ran("+a=5;>ha")).count(9));
    edges.same(2, Edges.made(ran("+a=5;>ha")).count(0));
  }

  private void formOfRow() {
    edges.about("Input text", "\"n\" (a new row)");
    reads("n", 1, true);
    reads("m", 0, false);
    reads("o", 0, false);
    reads("N", 0, false);
    reads("n1", 1, false);
    edges.same(1, Edges.made(ran("n")).count(2));
    edges.same(2, Edges.made(ran("n;n")).count(2));
  }

  private void formOfGoingOn() {
    edges.about("Input text", "; or \"*\" and how many rows, 1 to 12 (going on).");
    reads("*0", 1, false);
    for (int rows = 1; rows <= 12; rows++) {
      reads("*" + rows, rows < 10 ? 2 : 3, true);
      edges.same(rows, Edges.made(then(States.oldRows(12), "*" + rows)).count(5));
    }
    reads("*13", 2, false);
    reads("*19", 2, false);
    reads("*20", 2, false);
    reads("*", 1, false);
    reads("*n", 1, false);
    reads("*121", 3, false);
    reads("*-1", 1, false);
  }

  private void lettersOfOrders() {
    edges.about("Input text", "Letters are \"a\" to \"h\";");
    String[] orders = {"+#=5", "+#:b", "+b:#", "+#:b+c", "+b:#+c", "+b:c+#", "-#=5", ">#b", ">b#"};
    for (String order : orders) {
      for (char letter = 'a'; letter <= 'h'; letter++) {
        reads(order.replace('#', letter), order.length(), true);
      }
      int place = order.indexOf('#');
      for (char other : "`ijnzA@H05:=".toCharArray()) {
        reads(order.replace('#', other), place, false);
      }
    }
    edges.same(A, Edges.made(ran("+a=5")).column(1, 0, 0));
    edges.same(H, Edges.made(ran("+h=5")).column(1, 0, 0));
  }

  private void noLeadingZeros() {
    edges.about("Input text", "numbers are without leading zeros.");
    reads("+a=0", 4, true);
    reads("+a=00", 4, false);
    reads("+a=01", 4, false);
    reads("+a=09", 4, false);
    reads("+a=9", 4, true);
    reads("+a=90", 5, true);
    reads("-a=0", 4, true);
    reads("-a=00", 4, false);
    reads("-a=05", 4, false);
    reads("*01", 1, false);
    reads("*012", 1, false);
    reads("*10", 3, true);
  }

  private void leftToRight() {
    edges.about("Input text", "The buffer is read from left to right;");
    reads("x;y", 0, false);
    reads("n;y;x", 2, false);
    reads("n;n;x;", 4, false);
    reads("ba=+", 0, false);
    reads("+a=+a", 3, false);
  }

  private void whatIsASyntaxError() {
    edges.about("Input text",
        "a character is a syntax error if no orders as a text, ");
    for (int code = 33; code <= 126; code++) {
      char sign = (char) code;
      boolean starts = "+->n*".indexOf(sign) >= 0;
      boolean digit = sign >= '0' && sign <= '9';
      boolean letter = sign >= 'a' && sign <= 'h';
      startsWell("", sign, starts);
      startsWell("n;", sign, starts);
      startsWell("n", sign, sign == ';');
      startsWell("+", sign, letter);
      startsWell("+a", sign, sign == '=' || sign == ':');
      startsWell("+a=", sign, digit);
      startsWell("+a=0", sign, sign == ';');
      startsWell("+a=1", sign, digit || sign == ';');
      startsWell("+a=99", sign, sign == ';');
      startsWell("+a:", sign, letter);
      startsWell("+a:b", sign, sign == '+' || sign == ';');
      startsWell("+a:b+", sign, letter);
      startsWell("+a:b+c", sign, sign == ';');
      startsWell("-", sign, letter);
      startsWell("-a", sign, sign == '=');
      startsWell("-a=", sign, digit);
      startsWell("-a=0", sign, sign == ';');
      startsWell("-a=9", sign, digit || sign == ';');
      startsWell("-a=10", sign, sign == ';');
      startsWell(">", sign, letter);
      startsWell(">a", sign, letter);
      startsWell(">ab", sign, sign == ';');
      startsWell("*", sign, digit && sign != '0');
      startsWell("*1", sign, sign == '0' || sign == '1' || sign == '2' || sign == ';');
      startsWell("*2", sign, sign == ';');
      startsWell("*9", sign, sign == ';');
      startsWell("*12", sign, sign == ';');
    }
  }

  private void ofAnyLength() {
    edges.about("Input text",
        "of any length, begin with the characters before it and this character.");
    String[] starts = {";", ";+", ";+a", ";+a=", ";+a:", ";+a:b+", ";-", ";-a=", ";>", ";>a", ";*"};
    for (String start : starts) {
      reads(orders(60 - start.length()) + start, 60, false);
    }
    reads(rows(30) + ";", 60, false);
    reads(rows(30) + "n", 59, false);
  }

  // ---- undo

  private void eachUndoableSaves() {
    edges.about("Undo", "Each method that is marked \"undoable\"");
    Edges.Call[] calls = {
      x -> x.addNumber(C, 9), x -> x.addCopy(C, A, B), x -> x.addCopy(C, A, Edges.NONE),
      x -> x.drop(A, 9), x -> x.rename(A, C), ShapedRows::insert, x -> x.insertBy(1),
      x -> x.write(0, 2, A, 9), x -> x.remove(0), x -> x.goOn(1), x -> x.hold(0, 2),
      x -> x.retire(0), x -> Check.run(x, "n"),
    };
    for (Edges.Call call : calls) {
      edges.undoable(States.A_ROW, call);
    }
    Edges.Call[] others = {
      x -> x.append('n'), ShapedRows::clearBuffer, ShapedRows::firstError, x -> x.read(0, 2, A),
      x -> x.readAs(0, 0, A), x -> x.column(1, 0, 0), x -> x.shape(1, 0), x -> x.row(0, 0),
      x -> x.count(0), x -> x.lost(0, 1), x -> x.against(0, 1, A), ShapedRows::toGo,
      x -> x.find(2, A, 300), x -> (long) x.freshShare(), ShapedRows::digest,
    };
    for (Edges.Call call : others) {
      edges.notUndoable(States.A_ROW, call);
      edges.notUndoable(Edges.NEW, call);
    }
  }

  private void whatThrowsSavesNothing() {
    edges.about("Undo", "and does not throw an exception saves the state from before it");
    Edges.Call[] calls = {
      x -> x.addNumber(A, 9), x -> x.addNumber(8, 9), x -> x.addCopy(C, D, A),
      x -> x.addCopy(C, A, 8), x -> x.drop(C, 9), x -> x.drop(A, 100), x -> x.rename(A, B),
      x -> x.rename(A, 8), x -> x.insertBy(3), x -> x.write(0, 2, C, 9), x -> x.write(1, 2, A, 9),
      x -> x.write(0, 2, A, -1), x -> x.remove(1), x -> x.goOn(13), x -> x.hold(4, 0),
      x -> x.retire(1), x -> x.retire(3), ShapedRows::run,
    };
    for (Edges.Call call : calls) {
      edges.isTrue(Check.outcome(() -> call.on(Edges.made(States.A_ROW))).startsWith("throws"));
      edges.notUndoable(States.A_ROW, call);
    }
    edges.notUndoable(States.TWELVE_ROWS, ShapedRows::insert);
    edges.notUndoable(Edges.NEW, ShapedRows::undo);
  }

  private void whatChangesNothingSavesToo() {
    edges.about("Undo", "(also if it changes nothing)");
    Edges.Call[] calls = {
      x -> x.goOn(5), x -> x.hold(1, 0), x -> x.retire(0), x -> Check.run(x, "+a=5;n"),
    };
    Edges.Calls noRows = x -> x.addNumber(A, 1);
    for (Edges.Call call : calls) {
      edges.undoable(noRows, call);
    }
    edges.undoable(States.A_ROW, x -> x.write(0, 2, A, 300));
  }

  private void savesAllCounted() {
    edges.about("Undo", ": all, also what is counted so far");
    Edges.Calls before = x -> {
      States.TWO_COLUMNS.on(x);
      x.insertBy(1);
      x.insertBy(0);
    };
    ShapedRows x = Edges.made(before);
    x.write(0, 2, B, 5);
    edges.same(1, x.count(5));
    edges.same(1, x.count(6));
    edges.same(1, x.row(0, 3));
    x.goOn(2);
    edges.same(2, x.count(5));
    edges.same(2, x.count(4));
    edges.same(1, x.row(1, 3));
    x.undo();
    edges.same(1, x.count(5));
    edges.same(0, x.count(4));
    edges.same(0, x.row(1, 3));
    x.undo();
    edges.same(0, x.count(5));
    edges.same(0, x.count(6));
    edges.same(0, x.row(0, 3));
    edges.same(0, x.row(0, 4));
    edges.same(Edges.made(before).digest(), x.digest());
  }

  private void notTheBuffer() {
    edges.about("Undo", ", but the buffer");
    ShapedRows x = Edges.made(typed("n;"));
    x.insert();
    x.append('n');
    x.undo();
    edges.same(3, x.firstError());
    edges.same(3, x.clearBuffer());
    x.insert();
    x.undo();
    edges.same(0, x.clearBuffer());
    Check.run(x, "n;n");
    x.append('n');
    x.undo();
    edges.same(1, x.clearBuffer());
  }

  private void notTheSavedStates() {
    edges.about("Undo", "and the saved states.");
    ShapedRows x = new ShapedRows();
    x.insert();
    x.insert();
    x.insert();
    edges.same(2, x.undo());
    edges.same(2, x.count(2));
    x.goOn(1);
    edges.same(3, x.count(9));
    edges.same(2, x.undo());
    edges.same(2, x.count(9));
    edges.same(1, x.undo());
    edges.same(1, x.count(2));
    edges.same(0, x.undo());
    edges.same(0, x.count(2));
  }

  private void sixStatesAtMost() {
    edges.about("Undo", "At most 6 states are saved");
    ShapedRows x = new ShapedRows();
    for (int call = 1; call <= 12; call++) {
      x.insert();
      edges.same(Math.min(call, 6), x.count(9));
    }
    for (int left = 5; left >= 0; left--) {
      edges.same(left, x.undo());
      edges.same(6 + left, x.count(2));
    }
    edges.same(6, x.count(2));
  }

  private void oldestIsDropped() {
    edges.about("Undo", "; the oldest one is dropped first.");
    for (int calls = 5; calls <= 8; calls++) {
      ShapedRows x = new ShapedRows();
      for (int call = 0; call < calls; call++) {
        x.insert();
      }
      int left = x.count(9);
      while (left > 0) {
        left = x.undo();
        edges.same(Math.max(calls - 6, 0) + left, x.count(2));
      }
      edges.same(Math.max(calls - 6, 0), x.count(2));
    }
    ShapedRows refused = Edges.made(States.FULL);
    Check.outcome(() -> refused.addNumber(B, 5));
    ShapedRows x = Edges.made(States.FULL);
    for (int step = 0; step < 6; step++) {
      refused.undo();
      x.undo();
      edges.same(x.digest(), refused.digest());
    }
  }

  // ---- promise 13

  private void appendAppends() {
    edges.about("Promise 13", "Appends a character to the buffer.");
    ShapedRows x = Edges.made(typed("n"));
    long before = x.digest();
    x.append(';');
    edges.isTrue(x.digest() != before);
    edges.same(2, x.firstError());
    x.append('x');
    edges.same(2, x.firstError());
    edges.notUndoable(Edges.NEW, y -> y.append('n'));
  }

  private void appendCode() {
    edges.about("Promise 13", "`code`: the character code, 33 to 126");
    edges.refused(Edges.ARGUMENT, typed("n"), x -> x.append(32));
    edges.answers(2, typed("n"), x -> x.append(33));
    edges.answers(2, typed("n"), x -> x.append(126));
    edges.refused(Edges.ARGUMENT, typed("n"), x -> x.append(127));
  }

  private void appendReturns() {
    edges.about("Promise 13", "Returns the new length of the buffer.");
    ShapedRows x = new ShapedRows();
    for (int length = 1; length <= 60; length++) {
      edges.same(length, x.append('n'));
    }
  }

  private void appendOutOfRange() {
    edges.about("Promise 13", "Throws `IllegalArgumentException` if code is not 33 to 126");
    int[] out = {Edges.LEAST, -1, 0, 10, 31, 32, 127, 128, 256 + 'n', 65536 + 'n', Edges.MOST};
    for (int code : out) {
      edges.refused(Edges.ARGUMENT, Edges.NEW, x -> x.append(code));
    }
    for (int code = 33; code <= 126; code++) {
      int fine = code;
      edges.answers(1, Edges.NEW, x -> x.append(fine));
    }
  }

  private void appendFull() {
    edges.about("Promise 13", "Throws `IllegalStateException` if the buffer has 60 characters");
    String fiftyNine = rows(30);
    edges.answers(60, typed(fiftyNine), x -> x.append(';'));
    edges.refused(Edges.STATE, typed(fiftyNine + ";"), x -> x.append('n'));
    Edges.Calls cleared = x -> {
      typed(fiftyNine + ";").on(x);
      x.clearBuffer();
    };
    edges.answers(1, cleared, x -> x.append('n'));
  }

  // ---- promise 14

  private void clearBufferClears() {
    edges.about("Promise 14", "Clears the buffer.");
    ShapedRows x = Edges.made(typed("xyz"));
    x.clearBuffer();
    edges.same(0, x.firstError());
    edges.same(new ShapedRows().digest(), x.digest());
    edges.same(1, x.append('n'));
    edges.same(1, x.run());
  }

  private void clearBufferReturns() {
    edges.about("Promise 14", "Returns the length that it had.");
    edges.answers(0, Edges.NEW, ShapedRows::clearBuffer);
    edges.answers(1, typed("x"), ShapedRows::clearBuffer);
    edges.answers(60, typed(rows(30) + ";"), ShapedRows::clearBuffer);
    Edges.Calls cleared = x -> {
      typed("n;n").on(x);
      x.clearBuffer();
    };
    edges.answers(0, cleared, ShapedRows::clearBuffer);
    edges.answers(0, ran("n;n"), ShapedRows::clearBuffer);
  }

  // ---- promise 15

  private void firstErrorFinds() {
    edges.about("Promise 15", "Finds the first syntax error of the buffer.");
    edges.answers(2, typed("n;x;y"), ShapedRows::firstError);
    edges.answers(0, typed("xx"), ShapedRows::firstError);
    edges.changesNothing(typed("n;x;y"), ShapedRows::firstError);
    edges.changesNothing(typed("n;"), ShapedRows::firstError);
  }

  private void firstErrorIndex() {
    edges.about("Promise 15", "Returns the index of the first character that is a syntax error");
    edges.answers(0, typed("x"), ShapedRows::firstError);
    edges.answers(1, typed("nx"), ShapedRows::firstError);
    edges.answers(58, typed(rows(29) + ";x;"), ShapedRows::firstError);
    edges.answers(59, typed(rows(30) + "x"), ShapedRows::firstError);
  }

  private void firstErrorNone() {
    edges.about("Promise 15", "; the length of the buffer if there is none.");
    edges.answers(0, Edges.NEW, ShapedRows::firstError);
    edges.answers(1, typed("n"), ShapedRows::firstError);
    edges.answers(1, typed("+"), ShapedRows::firstError);
    edges.answers(59, typed(rows(30)), ShapedRows::firstError);
    edges.answers(60, typed(rows(30) + ";"), ShapedRows::firstError);
  }

  // ---- promise 16

  private void runCarriesOut() {
    edges.about("Promise 16", "Carries out the orders in the buffer as addNumber(), addCopy(), "
        + "drop(), rename(), insert() and goOn() do, one after the other");
    edges.isTrue(sameButSaved(ran("+a=0;n"), x -> {
      x.addNumber(A, 0);
      x.insert();
    }));
    edges.isTrue(sameButSaved(ran("+h=99;n;+a:h;*1"), x -> {
      x.addNumber(H, 99);
      x.insert();
      x.addCopy(A, H, Edges.NONE);
      x.goOn(1);
    }));
    edges.isTrue(sameButSaved(ran("n;+a=5;+b=6;+c:a+b;+d:b+b;*12"), x -> {
      x.insert();
      x.addNumber(A, 5);
      x.addNumber(B, 6);
      x.addCopy(C, A, B);
      x.addCopy(D, B, B);
      x.goOn(12);
    }));
    edges.isTrue(sameButSaved(ran("n;+a=5;+b=6;-a=0;n;-b=98;n;+c=10;>ch;*2"), x -> {
      x.insert();
      x.addNumber(A, 5);
      x.addNumber(B, 6);
      x.drop(A, 0);
      x.insert();
      x.drop(B, 98);
      x.insert();
      x.addNumber(C, 10);
      x.rename(C, H);
      x.goOn(2);
    }));
  }

  private void runStopsAtTheFirst() {
    edges.about("Promise 16", ", up to the first one whose method would throw an exception");
    String[] stops = {"+a=1", "+a:b", "+c:d", "+c:a+d", "-c=1", ">ca", ">ab", ">aa"};
    for (String stop : stops) {
      ShapedRows x = Edges.made(then(States.TWO_COLUMNS, "n;" + stop + ";n;+h=1"));
      edges.same(1, x.count(2));
      edges.same(3, x.count(0));
    }
    String[] passes = {"+c=1", "+c:b", "+c:a", "+c:a+b", "-b=1", ">bc", ">ac", ">bh"};
    for (String pass : passes) {
      ShapedRows x = Edges.made(then(States.TWO_COLUMNS, "n;" + pass + ";n;+g=1"));
      edges.same(2, x.count(2));
      edges.same(5, x.count(0));
    }
    edges.answers(3, typedAfter(States.ELEVEN_ROWS, "*1;n;*1"), ShapedRows::run);
    edges.answers(1, typedAfter(States.TWELVE_ROWS, "*1;n;*1"), ShapedRows::run);
    String[] changes = {"+d=1", "+d:a", "+d:a+a", "-a=1", ">ad"};
    for (String change : changes) {
      edges.answers(3, typedAfter(States.ELEVEN_SHAPES, "n;" + change + ";n"), ShapedRows::run);
      edges.answers(1, typedAfter(States.TWELVE_SHAPES, "n;" + change + ";n"), ShapedRows::run);
    }
  }

  private void runClears() {
    edges.about("Promise 16", ", and clears the buffer.");
    edges.same(0, Edges.made(ran("n;n")).clearBuffer());
    edges.same(0, Edges.made(ran("-a=1;n")).clearBuffer());
  }

  private void runIsUndoableAsOne() {
    edges.about("Promise 16", "Undoable, as one call, also if none is carried out.");
    edges.same(1, Edges.made(ran("n;+a=5;n;*3")).count(9));
    edges.same(1, Edges.made(ran("-a=1;n")).count(9));
    Edges.Calls full = x -> {
      States.FULL.on(x);
      x.clearBuffer();
    };
    edges.undoable(full, x -> Check.run(x, "n;n;n"));
    edges.undoable(full, x -> Check.run(x, "+b=5"));
    edges.undoable(Edges.NEW, x -> Check.run(x, "n;+a=5;n;*3"));
    edges.undoable(Edges.NEW, x -> Check.run(x, "-a=1"));
    edges.notUndoable(typed("n;"), ShapedRows::run);
  }

  private void runReturns() {
    edges.about("Promise 16", "Returns how many are carried out.");
    edges.answers(0, typed(">ab"), ShapedRows::run);
    edges.answers(0, typed(">ab;n;n"), ShapedRows::run);
    edges.answers(1, typed("n"), ShapedRows::run);
    edges.answers(2, typed("n;n;>ab;n"), ShapedRows::run);
    edges.answers(3, typed("n;n;n"), ShapedRows::run);
    edges.answers(12, typed(rows(12)), ShapedRows::run);
    edges.answers(12, typed(rows(13)), ShapedRows::run);
  }

  private void runNotComplete() {
    edges.about("Promise 16",
        "Throws `IllegalArgumentException` if the buffer is not complete orders as a text");
    String[] texts = {
      "", ";", "n;", "n;;n", "x", "n;x", "+", "+a", "+a=", "+a:", "+a:b+", "-a", "-a=", ">", ">a",
      "*", "*0", "*13", "+a=100", "+a=05", "n;n;n;", "+i=5", "nn",
    };
    for (String text : texts) {
      edges.refused(Edges.ARGUMENT, typed(text), ShapedRows::run);
      edges.refused(Edges.ARGUMENT, typedAfter(States.A_ROW, text), ShapedRows::run);
    }
    edges.answers(1, typed("n"), ShapedRows::run);
    edges.refused(Edges.ARGUMENT, ran("n"), ShapedRows::run);
  }

  // ---- promise 17

  private void undoRestores() {
    edges.about("Promise 17", "Restores the latest saved state, and drops it.");
    ShapedRows x = Edges.made(States.TWO_COLUMNS);
    x.insertBy(0);
    long first = x.digest();
    x.drop(A, 9);
    x.goOn(1);
    x.undo();
    edges.same(4, x.count(0));
    edges.same(0, x.row(0, 0));
    edges.same(11, x.read(0, 2, A));
    x.undo();
    edges.same(3, x.count(0));
    edges.same(first, x.digest());
  }

  private void undoReturns() {
    edges.about("Promise 17", "Returns how many saved states are left.");
    edges.answers(0, ShapedRows::insert, ShapedRows::undo);
    edges.answers(4, States.A_ROW, ShapedRows::undo);
    edges.answers(5, States.FULL, ShapedRows::undo);
    edges.same(5, edges.answers(5, States.TWELVE_ROWS, ShapedRows::undo).count(9));
  }

  private void undoNone() {
    edges.about("Promise 17", "Throws `IllegalStateException` if there is none");
    edges.refused(Edges.STATE, Edges.NEW, ShapedRows::undo);
    edges.answers(0, ShapedRows::insert, ShapedRows::undo);
    edges.refused(Edges.STATE, States.undone(ShapedRows::insert), ShapedRows::undo);
    edges.refused(Edges.STATE, typed("n;"), ShapedRows::undo);
  }

  // ---- what the tests above share

  /** What the buffer tells of a text: the first error, and whether it can be run. */
  private void reads(String text, int error, boolean complete) {
    edges.answers(error, typed(text), ShapedRows::firstError);
    if (complete) {
      edges.isTrue(Check.outcome(() -> Edges.made(typed(text)).run()).startsWith("answers"));
    } else {
      edges.refused(Edges.ARGUMENT, typed(text), ShapedRows::run);
    }
  }

  private void startsWell(String start, char sign, boolean well) {
    edges.answers(start.length() + (well ? 1 : 0), typed(start + sign), ShapedRows::firstError);
  }

  /** So many orders for a new row; the text has 2 * rows - 1 characters. */
  private static String rows(int rows) {
    StringBuilder text = new StringBuilder("n");
    for (int row = 1; row < rows; row++) {
      text.append(";n");
    }
    return text.toString();
  }

  /** Complete orders of just this length. */
  private static String orders(int length) {
    return length % 2 == 1 ? rows((length + 1) / 2) : "*1;" + rows((length - 2) / 2);
  }

  private static Edges.Calls typed(String text) {
    return x -> Check.type(x, text);
  }

  private static Edges.Calls typedAfter(Edges.Calls before, String text) {
    return x -> {
      before.on(x);
      Check.type(x, text);
    };
  }

  private static Edges.Calls ran(String text) {
    return x -> Check.run(x, text);
  }

  private static Edges.Calls then(Edges.Calls before, String text) {
    return x -> {
      before.on(x);
      Check.run(x, text);
    };
  }

  private static boolean sameButSaved(Edges.Calls some, Edges.Calls others) {
    return Edges.forwards(Edges.made(some)).equals(Edges.forwards(Edges.made(others)));
  }
}
