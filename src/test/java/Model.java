import java.util.ArrayDeque;
import java.util.ArrayList;
import java.util.Arrays;
import java.util.Deque;
import java.util.List;
import java.util.regex.Matcher;
import java.util.regex.Pattern;

/**
 * The document once more, as literally as can be and without a thought of speed: values stand by
 * place in lists, columns are objects, and the text is told by a regular expression. It shares no
 * code and no representation with ShapedRows, so that the two can be held against each other.
 */
final class Model {
  private static final String NUMBER = "(?:0|[1-9][0-9]?)";
  private static final String ORDER =
      "(?:\\+[a-h]=" + NUMBER + "|\\+[a-h]:[a-h](?:\\+[a-h])?|-[a-h]=" + NUMBER
          + "|>[a-h][a-h]|n|\\*(?:1[0-2]?|[2-9]))";
  private static final Pattern ORDERS = Pattern.compile(ORDER + "(?:;" + ORDER + ")*");

  /** A column: it is the same one if it is the same object. */
  private static final class Column {
    final int firstShape;

    Column(int firstShape) {
      this.firstShape = firstShape;
    }
  }

  /** A column's place in one shape. */
  private record Slot(Column column, char letter) {}

  private static final class Shape {
    final List<Slot> slots = new ArrayList<>();
    int change;
    int number;
    int place;
    int first = -1;
    int second = -1;

    int placeOf(int letter) {
      for (int i = 0; i < slots.size(); i++) {
        if (slots.get(i).letter() == 'a' + letter) {
          return i;
        }
      }
      return -1;
    }

    int placeOf(Column column) {
      for (int i = 0; i < slots.size(); i++) {
        if (slots.get(i).column() == column) {
          return i;
        }
      }
      return -1;
    }
  }

  private static final class Row {
    int shape;
    int rewrites;
    List<Integer> values = new ArrayList<>();

    Row copy() {
      Row row = new Row();
      row.shape = shape;
      row.rewrites = rewrites;
      row.values = new ArrayList<>(values);
      return row;
    }
  }

  private static final class Saved {
    final List<Shape> shapes;
    final List<Row> rows = new ArrayList<>();
    final int[] numbers;

    Saved(Model model) {
      shapes = new ArrayList<>(model.shapes);
      for (Row row : model.rows) {
        rows.add(row.copy());
      }
      int[] held = model.held;
      numbers = new int[] {
        model.mark, model.cursor, model.rewritten, model.writes, held[0], held[1], held[2], held[3],
      };
    }
  }

  private List<Shape> shapes = new ArrayList<>();
  private List<Row> rows = new ArrayList<>();
  private int mark;
  private int cursor;
  private int rewritten;
  private int writes;
  private final int[] held = new int[4];
  private String buffer = "";
  private final Deque<Saved> saved = new ArrayDeque<>();

  Model() {
    shapes.add(new Shape());
  }

  int addNumber(int letter, int number) {
    needArgument(within(letter, 7) && within(number, 99));
    needState(newest().placeOf(letter) < 0 && shapes.size() < 12);
    save();
    Shape shape = next(1);
    shape.number = number;
    return addLast(shape, letter);
  }

  int addCopy(int letter, int of, int with) {
    needArgument(within(letter, 7) && within(of, 7) && (with == -1 || within(with, 7)));
    int first = newest().placeOf(of);
    int second = with == -1 ? -1 : newest().placeOf(with);
    needState(newest().placeOf(letter) < 0 && first >= 0 && shapes.size() < 12);
    needState(with == -1 || second >= 0);
    save();
    Shape shape = next(with == -1 ? 2 : 3);
    shape.first = first;
    shape.second = second;
    return addLast(shape, letter);
  }

  int drop(int letter, int number) {
    needArgument(within(letter, 7) && within(number, 99));
    int place = newest().placeOf(letter);
    needState(place >= 0 && shapes.size() < 12);
    save();
    Shape shape = next(4);
    shape.place = place;
    shape.number = number;
    shape.slots.remove(place);
    return shapes.size() - 1;
  }

  int rename(int letter, int other) {
    needArgument(within(letter, 7) && within(other, 7));
    int place = newest().placeOf(letter);
    needState(place >= 0 && newest().placeOf(other) < 0 && shapes.size() < 12);
    save();
    Shape shape = next(5);
    shape.slots.set(place, new Slot(shape.slots.get(place).column(), (char) ('a' + other)));
    return shapes.size() - 1;
  }

  int insert() {
    needState(rows.size() < 12);
    return insertBy(shapes.size() - 1);
  }

  int insertBy(int shape) {
    needIndex(usable(shape));
    needState(rows.size() < 12);
    save();
    Row row = new Row();
    row.shape = shape;
    for (int i = 0; i < shapes.get(shape).slots.size(); i++) {
      row.values.add(0);
    }
    rows.add(row);
    return rows.size() - 1;
  }

  int write(int row, int shape, int letter, int value) {
    needIndex(within(row, rows.size() - 1) && usable(shape));
    needArgument(within(letter, 7) && within(value, 99999));
    int place = shapes.get(shape).placeOf(letter);
    needState(place >= 0);
    Column column = shapes.get(shape).slots.get(place).column();
    Row it = rows.get(row);
    boolean has = shapes.get(it.shape).placeOf(column) >= 0;
    needState(has || it.shape < shape);
    save();
    if (!has) {
      rewrite(it, shape);
    }
    it.values.set(shapes.get(it.shape).placeOf(column), value);
    writes++;
    return it.shape;
  }

  int remove(int row) {
    needIndex(within(row, rows.size() - 1));
    save();
    rows.remove(row);
    if (cursor > row) {
      cursor--;
    }
    return rows.size();
  }

  int goOn(int steps) {
    needArgument(within(steps - 1, 11));
    save();
    int before = rewritten;
    for (int i = 0; i < steps; i++) {
      stepOn();
    }
    return rewritten - before;
  }

  int hold(int reader, int shape) {
    needIndex(within(reader, 3) && usable(shape));
    save();
    int before = held[reader];
    held[reader] = shape;
    return before;
  }

  int retire(int shape) {
    needIndex(usable(shape));
    needState(rows.stream().allMatch(row -> row.shape >= shape));
    needState(Arrays.stream(held).allMatch(holds -> holds >= shape));
    save();
    mark = shape;
    return shapes.size() - mark;
  }

  int append(int code) {
    needArgument(within(code - 33, 126 - 33));
    needState(buffer.length() < 60);
    buffer += (char) code;
    return buffer.length();
  }

  int clearBuffer() {
    int length = buffer.length();
    buffer = "";
    return length;
  }

  int firstError() {
    for (int length = 1; length <= buffer.length(); length++) {
      Matcher matcher = ORDERS.matcher(buffer.substring(0, length));
      if (!matcher.matches() && !matcher.hitEnd()) {
        return length - 1;
      }
    }
    return buffer.length();
  }

  int run() {
    needArgument(ORDERS.matcher(buffer).matches());
    List<Saved> states = new ArrayList<>(saved);
    Saved before = new Saved(this);
    int done = 0;
    try {
      for (String order : buffer.split(";")) {
        carryOut(order);
        done++;
      }
    } catch (IllegalStateException refused) {
      // the orders behind it are left
    }
    saved.clear();
    saved.addAll(states);
    push(before);
    buffer = "";
    return done;
  }

  int undo() {
    needState(!saved.isEmpty());
    Saved state = saved.removeLast();
    shapes = state.shapes;
    rows = state.rows;
    mark = state.numbers[0];
    cursor = state.numbers[1];
    rewritten = state.numbers[2];
    writes = state.numbers[3];
    System.arraycopy(state.numbers, 4, held, 0, 4);
    return saved.size();
  }

  int read(int row, int shape, int letter) {
    needIndex(within(row, rows.size() - 1) && usable(shape));
    needArgument(within(letter, 7));
    int place = shapes.get(shape).placeOf(letter);
    return place < 0 ? -1 : valuesBy(rows.get(row), shape).get(place);
  }

  int readAs(int reader, int row, int letter) {
    needIndex(within(reader, 3) && within(row, rows.size() - 1));
    return read(row, held[reader], letter);
  }

  int column(int shape, int place, int what) {
    needIndex(within(shape, shapes.size() - 1));
    needArgument(place >= 0 && within(what, 2));
    List<Slot> slots = shapes.get(shape).slots;
    if (place >= slots.size()) {
      return -1;
    }
    Slot slot = slots.get(place);
    if (what == 0) {
      return slot.letter() - 'a';
    }
    return what == 1 ? slot.column().firstShape : newest().placeOf(slot.column());
  }

  int shape(int shape, int what) {
    needIndex(within(shape, shapes.size() - 1));
    needArgument(within(what, 5));
    Shape it = shapes.get(shape);
    return switch (what) {
      case 0 -> it.slots.size();
      case 1 -> it.change;
      case 2 -> (int) rows.stream().filter(row -> row.shape == shape).count();
      case 3 -> (int) Arrays.stream(held).filter(holds -> holds == shape).count();
      case 4 -> shape < mark ? 1 : 0;
      default -> it.slots.stream().mapToInt(slot -> 1 << (slot.letter() - 'a')).sum();
    };
  }

  int row(int row, int what) {
    needIndex(within(row, rows.size() - 1));
    needArgument(within(what, 5));
    Row it = rows.get(row);
    return switch (what) {
      case 0 -> it.shape;
      case 1 -> it.values.size();
      case 2 -> shapes.size() - 1 - it.shape;
      case 3 -> it.rewrites;
      case 4 -> sum(it.values);
      default -> sum(valuesBy(it, shapes.size() - 1));
    };
  }

  int count(int what) {
    needArgument(within(what, 9));
    return switch (what) {
      case 0 -> shapes.size();
      case 1 -> mark;
      case 2 -> rows.size();
      case 3 -> (int) rows.stream().filter(row -> row.shape < shapes.size() - 1).count();
      case 4 -> cursor;
      case 5 -> rewritten;
      case 6 -> writes;
      case 7 -> newest().slots.size();
      case 8 -> Math.min(Arrays.stream(held).min().getAsInt(),
          rows.stream().mapToInt(row -> row.shape).min().orElse(99));
      default -> saved.size();
    };
  }

  int lost(int row, int shape) {
    needIndex(within(row, rows.size() - 1) && usable(shape));
    Row there = rows.get(row).copy();
    there.values = valuesBy(there, shape);
    there.shape = shape;
    List<Integer> back = valuesBy(there, rows.get(row).shape);
    int others = 0;
    for (int i = 0; i < back.size(); i++) {
      if (!back.get(i).equals(rows.get(row).values.get(i))) {
        others++;
      }
    }
    return others;
  }

  int against(int row, int shape, int letter) {
    needIndex(within(row, rows.size() - 1) && usable(shape));
    needArgument(within(letter, 7));
    Shape of = shapes.get(shape);
    if (of.placeOf(letter) < 0) {
      return 1;
    }
    Column column = of.slots.get(of.placeOf(letter)).column();
    Row it = rows.get(row);
    return it.shape < shape || shapes.get(it.shape).placeOf(column) >= 0 ? 0 : 2;
  }

  /** Tries it on a copy, step by step. */
  int toGo() {
    Saved before = new Saved(this);
    int steps = 0;
    while (count(3) > 0) {
      stepOn();
      steps++;
    }
    saved.addLast(before);
    undo();
    return steps;
  }

  int find(int shape, int letter, int value) {
    needIndex(usable(shape));
    needArgument(within(letter, 7) && within(value, 99999));
    int mask = 0;
    for (int row = 0; row < rows.size(); row++) {
      mask += read(row, shape, letter) == value ? 1 << row : 0;
    }
    return mask;
  }

  double freshShare() {
    return rows.isEmpty() ? 1.0 : (double) (rows.size() - count(3)) / rows.size();
  }

  long digest() {
    List<Long> list = new ArrayList<>();
    for (int what = 0; what < 10; what++) {
      list.add((long) count(what));
    }
    for (int shape = 0; shape < shapes.size(); shape++) {
      for (int what = 0; what < 6; what++) {
        list.add((long) shape(shape, what));
      }
      for (int place = 0; place < shapes.get(shape).slots.size(); place++) {
        for (int what = 0; what < 3; what++) {
          list.add((long) column(shape, place, what));
        }
      }
    }
    for (int row = 0; row < rows.size(); row++) {
      for (int what = 0; what < 6; what++) {
        list.add((long) row(row, what));
      }
      for (int shape = mark; shape < shapes.size(); shape++) {
        for (int value : valuesBy(rows.get(row), shape)) {
          list.add((long) value);
        }
        list.add((long) lost(row, shape));
      }
    }
    for (int shape : held) {
      list.add((long) shape);
    }
    list.add((long) toGo());
    list.add((long) find(shapes.size() - 1, 0, 5));
    list.add(Double.doubleToLongBits(freshShare()));
    list.add((long) buffer.length());
    for (char code : buffer.toCharArray()) {
      list.add((long) code);
    }
    long hash = 2699;
    for (long value : list) {
      hash = 31 * hash + value;
    }
    return hash;
  }

  private void carryOut(String order) {
    char sign = order.charAt(0);
    if (sign == 'n') {
      insert();
    } else if (sign == '*') {
      goOn(Integer.parseInt(order.substring(1)));
    } else if (sign == '>') {
      rename(order.charAt(1) - 'a', order.charAt(2) - 'a');
    } else if (sign == '-') {
      drop(order.charAt(1) - 'a', Integer.parseInt(order.split("=")[1]));
    } else if (order.contains("=")) {
      addNumber(order.charAt(1) - 'a', Integer.parseInt(order.split("=")[1]));
    } else {
      String[] of = order.split(":")[1].split("\\+");
      int with = of.length == 2 ? of[1].charAt(0) - 'a' : -1;
      addCopy(order.charAt(1) - 'a', of[0].charAt(0) - 'a', with);
    }
  }

  private void stepOn() {
    if (rows.isEmpty()) {
      return;
    }
    if (cursor >= rows.size()) {
      cursor = 0;
    }
    if (rows.get(cursor).shape < shapes.size() - 1) {
      rewrite(rows.get(cursor), shapes.size() - 1);
    }
    cursor++;
  }

  private void rewrite(Row row, int shape) {
    row.values = valuesBy(row, shape);
    row.shape = shape;
    row.rewrites++;
    rewritten++;
  }

  private List<Integer> valuesBy(Row row, int shape) {
    List<Integer> values = new ArrayList<>(row.values);
    for (int s = row.shape + 1; s <= shape; s++) {
      forth(values, shapes.get(s));
    }
    for (int s = row.shape; s > shape; s--) {
      back(values, shapes.get(s));
    }
    return values;
  }

  private static void forth(List<Integer> values, Shape by) {
    switch (by.change) {
      case 1 -> values.add(by.number);
      case 2 -> values.add(values.get(by.first));
      case 3 -> values.add(Math.min(99999, values.get(by.first) + values.get(by.second)));
      case 4 -> values.remove(by.place);
      default -> { }
    }
  }

  private static void back(List<Integer> values, Shape by) {
    switch (by.change) {
      case 1, 2, 3 -> values.remove(values.size() - 1);
      case 4 -> values.add(by.place, by.number);
      default -> { }
    }
  }

  private Shape newest() {
    return shapes.get(shapes.size() - 1);
  }

  private Shape next(int change) {
    Shape shape = new Shape();
    shape.change = change;
    shape.slots.addAll(newest().slots);
    shapes.add(shape);
    return shape;
  }

  private int addLast(Shape shape, int letter) {
    int number = shapes.size() - 1;
    shape.slots.add(new Slot(new Column(number), (char) ('a' + letter)));
    return number;
  }

  private void save() {
    push(new Saved(this));
  }

  private void push(Saved state) {
    saved.addLast(state);
    if (saved.size() > 6) {
      saved.removeFirst();
    }
  }

  private boolean usable(int shape) {
    return shape >= mark && shape < shapes.size();
  }

  private static boolean within(int number, int most) {
    return number >= 0 && number <= most;
  }

  private static int sum(List<Integer> values) {
    return values.stream().mapToInt(value -> value).sum();
  }

  private static void needIndex(boolean holds) {
    if (!holds) {
      throw new IndexOutOfBoundsException();
    }
  }

  private static void needArgument(boolean holds) {
    if (!holds) {
      throw new IllegalArgumentException();
    }
  }

  private static void needState(boolean holds) {
    if (!holds) {
      throw new IllegalStateException();
    }
  }
}
