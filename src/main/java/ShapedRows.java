/**
 * Rows of several shapes. A row keeps the shape in which it was written and is read by newer and by
 * older ones; shapes come one after the other, each by one change of the one ahead of it.
 *
 * <p>Every array is made by the constructor, and all of them are reached through {@link #at} and
 * {@link #put}, so that no index goes unlooked at and no call makes an object.
 */
public final class ShapedRows {
  public static final int NONE = -1;

  private static final int MOST_SHAPES = 12;
  private static final int MOST_COLUMNS = 8;
  private static final int MOST_ROWS = 12;
  private static final int MOST_SAVED = 6;
  private static final int MOST_CHARACTERS = 60;
  private static final int READERS = 4;
  private static final int LETTERS = 8;
  private static final int MOST_NUMBER = 99;
  private static final int MOST_VALUE = 99999;
  private static final int MOST_STEPS = 12;

  private static final int ADDED_NUMBER = 1;
  private static final int ADDED_COPY = 2;
  private static final int ADDED_SUM = 3;
  private static final int DROPPED = 4;
  private static final int RENAMED = 5;

  private static final int WRITABLE = 0;
  private static final int NO_SUCH_LETTER = 1;
  private static final int COLUMN_GONE = 2;

  private static final int SHAPE_PROPERTIES = 6;
  private static final int COLUMN_PROPERTIES = 3;
  private static final int ROW_PROPERTIES = 6;
  private static final int COUNTS = 10;

  private static final long FIRST_HASH = 2699;

  private final State state;
  private final History history;
  private final Text text;

  public ShapedRows() {
    state = new State();
    history = new History();
    text = new Text();
  }

  // ---- shapes

  public int addNumber(int letter, int number)
      throws IllegalArgumentException, IllegalStateException {
    if (!isLetter(letter) || !isNumber(number)) {
      throw new IllegalArgumentException("letter or number is out of range");
    }
    if (!state.shapes.canAdd(letter)) {
      throw new IllegalStateException("the letter is taken, or there are too many shapes");
    }
    history.save(state);
    return state.shapes.extendByNumber(letter, number);
  }

  public int addCopy(int letter, int of, int with)
      throws IllegalArgumentException, IllegalStateException {
    if (!isLetter(letter) || !isLetter(of) || !isLetterOrNone(with)) {
      throw new IllegalArgumentException("a letter is out of range");
    }
    if (!state.shapes.canAddFrom(letter, of, with)) {
      throw new IllegalStateException("the letters do not fit, or there are too many shapes");
    }
    history.save(state);
    return state.shapes.extendFrom(letter, of, with);
  }

  public int drop(int letter, int number) throws IllegalArgumentException, IllegalStateException {
    if (!isLetter(letter) || !isNumber(number)) {
      throw new IllegalArgumentException("letter or number is out of range");
    }
    if (!state.shapes.canDrop(letter)) {
      throw new IllegalStateException("the letter is missing, or there are too many shapes");
    }
    history.save(state);
    return state.shapes.leaveOut(letter, number);
  }

  public int rename(int letter, int other) throws IllegalArgumentException, IllegalStateException {
    if (!isLetter(letter) || !isLetter(other)) {
      throw new IllegalArgumentException("a letter is out of range");
    }
    if (!state.shapes.canRename(letter, other)) {
      throw new IllegalStateException("the letters do not fit, or there are too many shapes");
    }
    history.save(state);
    return state.shapes.exchangeLetter(letter, other);
  }

  // ---- rows

  public int insert() throws IllegalStateException {
    if (state.rows.isFull()) {
      throw new IllegalStateException("there are too many rows");
    }
    history.save(state);
    return state.rows.addRow(state.shapes.newest());
  }

  public int insertBy(int shape) throws IndexOutOfBoundsException, IllegalStateException {
    if (!state.shapes.isUsable(shape)) {
      throw new IndexOutOfBoundsException("no such shape, or it is retired");
    }
    if (state.rows.isFull()) {
      throw new IllegalStateException("there are too many rows");
    }
    history.save(state);
    return state.rows.addRow(shape);
  }

  public int write(int row, int shape, int letter, int value)
      throws IndexOutOfBoundsException, IllegalArgumentException, IllegalStateException {
    if (!state.rows.isThere(row) || !state.shapes.isUsable(shape)) {
      throw new IndexOutOfBoundsException("no such row or shape, or the shape is retired");
    }
    if (!isLetter(letter) || !isValue(value)) {
      throw new IllegalArgumentException("letter or value is out of range");
    }
    if (state.refusal(row, shape, letter) != WRITABLE) {
      throw new IllegalStateException("no such letter, or the write is refused");
    }
    history.save(state);
    return state.writeValue(row, shape, letter, value);
  }

  public int remove(int row) throws IndexOutOfBoundsException {
    if (!state.rows.isThere(row)) {
      throw new IndexOutOfBoundsException("no such row");
    }
    history.save(state);
    return state.rows.takeOut(row);
  }

  public int goOn(int rows) throws IllegalArgumentException {
    if (rows < 1 || rows > MOST_STEPS) {
      throw new IllegalArgumentException("rows is out of range");
    }
    history.save(state);
    return state.stepOn(rows);
  }

  // ---- readers

  public int hold(int reader, int shape) throws IndexOutOfBoundsException {
    if (!isReader(reader) || !state.shapes.isUsable(shape)) {
      throw new IndexOutOfBoundsException("no such reader or shape, or the shape is retired");
    }
    history.save(state);
    return state.letHold(reader, shape);
  }

  public int retire(int shape) throws IndexOutOfBoundsException, IllegalStateException {
    if (!state.shapes.isUsable(shape)) {
      throw new IndexOutOfBoundsException("no such shape, or it is retired");
    }
    if (state.oldestNeeded() < shape) {
      throw new IllegalStateException("a row has an older shape, or a reader holds one");
    }
    history.save(state);
    return state.shapes.setMark(shape);
  }

  // ---- texts

  public int append(int code) throws IllegalArgumentException, IllegalStateException {
    if (code < 33 || code > 126) {
      throw new IllegalArgumentException("the code is out of range");
    }
    if (text.isFull()) {
      throw new IllegalStateException("the buffer is full");
    }
    return text.add(code);
  }

  public int clearBuffer() {
    return text.clear();
  }

  public int firstError() {
    return text.errorPlace();
  }

  public int run() throws IllegalArgumentException {
    if (!text.isComplete()) {
      throw new IllegalArgumentException("the buffer is not complete orders");
    }
    history.save(state);
    int done = 0;
    int from = 0;
    boolean going = true;
    for (int end = 0; going && end <= text.length(); end++) {
      if (text.endsOrder(end)) {
        going = carriesOut(from, end);
        done += going ? 1 : 0;
        from = end + 1;
      }
    }
    text.clear();
    return done;
  }

  public int undo() throws IllegalStateException {
    if (history.size() == 0) {
      throw new IllegalStateException("there is no saved state");
    }
    return history.restore(state);
  }

  // ---- looks; nothing is changed

  public int read(int row, int shape, int letter)
      throws IndexOutOfBoundsException, IllegalArgumentException {
    if (!state.rows.isThere(row) || !state.shapes.isUsable(shape)) {
      throw new IndexOutOfBoundsException("no such row or shape, or the shape is retired");
    }
    if (!isLetter(letter)) {
      throw new IllegalArgumentException("letter is out of range");
    }
    return state.valueRead(row, shape, letter);
  }

  public int readAs(int reader, int row, int letter)
      throws IndexOutOfBoundsException, IllegalArgumentException {
    if (!isReader(reader) || !state.rows.isThere(row)) {
      throw new IndexOutOfBoundsException("no such reader or row");
    }
    if (!isLetter(letter)) {
      throw new IllegalArgumentException("letter is out of range");
    }
    return state.valueRead(row, state.heldBy(reader), letter);
  }

  public int column(int shape, int place, int what)
      throws IndexOutOfBoundsException, IllegalArgumentException {
    if (!state.shapes.isThere(shape)) {
      throw new IndexOutOfBoundsException("no such shape");
    }
    if (place < 0 || what < 0 || what >= COLUMN_PROPERTIES) {
      throw new IllegalArgumentException("place or what is out of range");
    }
    return state.shapes.columnProperty(shape, place, what);
  }

  public int shape(int shape, int what) throws IndexOutOfBoundsException, IllegalArgumentException {
    if (!state.shapes.isThere(shape)) {
      throw new IndexOutOfBoundsException("no such shape");
    }
    if (what < 0 || what >= SHAPE_PROPERTIES) {
      throw new IllegalArgumentException("what is out of range");
    }
    return state.shapeProperty(shape, what);
  }

  public int row(int row, int what) throws IndexOutOfBoundsException, IllegalArgumentException {
    if (!state.rows.isThere(row)) {
      throw new IndexOutOfBoundsException("no such row");
    }
    if (what < 0 || what >= ROW_PROPERTIES) {
      throw new IllegalArgumentException("what is out of range");
    }
    return state.rowProperty(row, what);
  }

  public int count(int what) throws IllegalArgumentException {
    if (what < 0 || what >= COUNTS) {
      throw new IllegalArgumentException("what is out of range");
    }
    return counted(what);
  }

  // ---- what would be; nothing is changed

  public int lost(int row, int shape) throws IndexOutOfBoundsException {
    if (!state.rows.isThere(row) || !state.shapes.isUsable(shape)) {
      throw new IndexOutOfBoundsException("no such row or shape, or the shape is retired");
    }
    return state.valuesLost(row, shape);
  }

  public int against(int row, int shape, int letter)
      throws IndexOutOfBoundsException, IllegalArgumentException {
    if (!state.rows.isThere(row) || !state.shapes.isUsable(shape)) {
      throw new IndexOutOfBoundsException("no such row or shape, or the shape is retired");
    }
    if (!isLetter(letter)) {
      throw new IllegalArgumentException("letter is out of range");
    }
    return state.refusal(row, shape, letter);
  }

  public int toGo() {
    return state.stepsLeft();
  }

  public int find(int shape, int letter, int value)
      throws IndexOutOfBoundsException, IllegalArgumentException {
    if (!state.shapes.isUsable(shape)) {
      throw new IndexOutOfBoundsException("no such shape, or it is retired");
    }
    if (!isLetter(letter) || !isValue(value)) {
      throw new IllegalArgumentException("letter or value is out of range");
    }
    return state.rowsWith(shape, letter, value);
  }

  public double freshShare() {
    int all = state.rows.size();
    if (all == 0) {
      return 1.0;
    }
    return (double) (all - state.rowsBehind()) / (double) all;
  }

  public long digest() {
    long hash = FIRST_HASH;
    for (int what = 0; what < COUNTS; what++) {
      hash = mixed(hash, counted(what));
    }
    hash = mixedShapes(hash);
    for (int row = 0; row < state.rows.size(); row++) {
      hash = mixedRow(hash, row);
    }
    for (int reader = 0; reader < READERS; reader++) {
      hash = mixed(hash, state.heldBy(reader));
    }
    hash = mixed(hash, state.stepsLeft());
    hash = mixed(hash, state.rowsWith(state.shapes.newest(), 0, 5));
    hash = mixed(hash, bitsOfShare(freshShare()));
    return mixedText(hash);
  }

  // ---- what the methods above share

  private int counted(int what) {
    switch (what) {
      case 0:
        return state.shapes.size();
      case 1:
        return state.shapes.mark();
      case 2:
        return state.rows.size();
      case 3:
        return state.rowsBehind();
      case 4:
        return state.rows.cursor();
      case 5:
        return state.rows.rewritten();
      case 6:
        return state.rows.writes();
      case 7:
        return state.shapes.width(state.shapes.newest());
      case 8:
        return state.oldestNeeded();
      default:
        return history.size();
    }
  }

  /** Carries out the order from one place to ahead of another; false if its method would throw. */
  private boolean carriesOut(int from, int end) {
    switch (text.code(from)) {
      case '+':
        return text.code(from + 2) == '=' ? addsNumber(from, end) : addsFrom(from, end);
      case '-':
        return drops(from, end);
      case '>':
        return renames(from);
      case 'n':
        return inserts();
      default:
        state.stepOn(text.number(from + 1, end));
        return true;
    }
  }

  private boolean addsNumber(int from, int end) {
    int letter = text.letter(from + 1);
    if (!state.shapes.canAdd(letter)) {
      return false;
    }
    state.shapes.extendByNumber(letter, text.number(from + 3, end));
    return true;
  }

  private boolean addsFrom(int from, int end) {
    int letter = text.letter(from + 1);
    int of = text.letter(from + 3);
    int with = end > from + 4 ? text.letter(from + 5) : NONE;
    if (!state.shapes.canAddFrom(letter, of, with)) {
      return false;
    }
    state.shapes.extendFrom(letter, of, with);
    return true;
  }

  private boolean drops(int from, int end) {
    int letter = text.letter(from + 1);
    if (!state.shapes.canDrop(letter)) {
      return false;
    }
    state.shapes.leaveOut(letter, text.number(from + 3, end));
    return true;
  }

  private boolean renames(int from) {
    int letter = text.letter(from + 1);
    int other = text.letter(from + 2);
    if (!state.shapes.canRename(letter, other)) {
      return false;
    }
    state.shapes.exchangeLetter(letter, other);
    return true;
  }

  private boolean inserts() {
    if (state.rows.isFull()) {
      return false;
    }
    state.rows.addRow(state.shapes.newest());
    return true;
  }

  private long mixedShapes(long start) {
    long hash = start;
    for (int shape = 0; shape < state.shapes.size(); shape++) {
      for (int what = 0; what < SHAPE_PROPERTIES; what++) {
        hash = mixed(hash, state.shapeProperty(shape, what));
      }
      for (int place = 0; place < state.shapes.width(shape); place++) {
        for (int what = 0; what < COLUMN_PROPERTIES; what++) {
          hash = mixed(hash, state.shapes.columnProperty(shape, place, what));
        }
      }
    }
    return hash;
  }

  private long mixedRow(long start, int row) {
    long hash = start;
    for (int what = 0; what < ROW_PROPERTIES; what++) {
      hash = mixed(hash, state.rowProperty(row, what));
    }
    for (int shape = state.shapes.mark(); shape < state.shapes.size(); shape++) {
      int[] values = state.valuesRead(row, shape);
      for (int place = 0; place < state.shapes.width(shape); place++) {
        hash = mixed(hash, at(values, state.shapes.columnAt(shape, place)));
      }
      hash = mixed(hash, state.valuesLost(row, shape));
    }
    return hash;
  }

  private long mixedText(long start) {
    long hash = mixed(start, text.length());
    for (int place = 0; place < text.length(); place++) {
      hash = mixed(hash, text.code(place));
    }
    return hash;
  }

  private static long mixed(long hash, long value) {
    return 31 * hash + value;
  }

  /**
   * The bits of a share, 0 to 1, by arithmetic: the library that the program may use has no
   * function for them. Each step is exact: it doubles, or takes the 1 ahead of the point away.
   */
  private static long bitsOfShare(double share) {
    if (share <= 0.0) {
      return 0L;
    }
    double significand = share;
    long exponent = 1023;
    for (int step = 0; step < 1000 && significand < 1.0; step++) {
      significand = significand * 2.0;
      exponent--;
    }
    return (exponent << 52) + (long) ((significand - 1.0) * (double) (1L << 52));
  }

  private static boolean isLetter(int letter) {
    return letter >= 0 && letter < LETTERS;
  }

  private static boolean isLetterOrNone(int letter) {
    return letter == NONE || isLetter(letter);
  }

  private static boolean isNumber(int number) {
    return number >= 0 && number <= MOST_NUMBER;
  }

  private static boolean isValue(int value) {
    return value >= 0 && value <= MOST_VALUE;
  }

  private static boolean isReader(int reader) {
    return reader >= 0 && reader < READERS;
  }

  private static int at(int[] cells, int index) {
    return index >= 0 && index < cells.length ? cells[index] : NONE;
  }

  private static void put(int[] cells, int index, int value) {
    if (index >= 0 && index < cells.length) {
      cells[index] = value;
    }
  }

  private static void copyAll(int[] from, int[] to) {
    System.arraycopy(from, 0, to, 0, Math.min(from.length, to.length));
  }

  /**
   * The shapes, each with its columns and with the change by which it came. A column is told by the
   * number of the shape that added it, since a shape adds one at the most: so it stays the same
   * under another letter, and one that is added anew with its letter is another one.
   */
  private static final class Shapes {
    private int size = 1;
    private int mark = 0;
    private final int[] changes = new int[MOST_SHAPES];
    private final int[] numbers = new int[MOST_SHAPES];
    private final int[] sources = new int[MOST_SHAPES];
    private final int[] addends = new int[MOST_SHAPES];
    private final int[] widths = new int[MOST_SHAPES];
    private final int[] columns = new int[MOST_SHAPES * MOST_COLUMNS];
    private final int[] letters = new int[MOST_SHAPES * MOST_COLUMNS];

    int size() {
      return size;
    }

    int mark() {
      return mark;
    }

    int newest() {
      return size - 1;
    }

    boolean isThere(int shape) {
      return shape >= 0 && shape < size;
    }

    boolean isRetired(int shape) {
      return shape < mark;
    }

    boolean isUsable(int shape) {
      return isThere(shape) && !isRetired(shape);
    }

    int width(int shape) {
      return at(widths, shape);
    }

    int changeOf(int shape) {
      return at(changes, shape);
    }

    int columnAt(int shape, int place) {
      return at(columns, shape * MOST_COLUMNS + place);
    }

    int columnOfLetter(int shape, int letter) {
      int place = placeOfLetter(shape, letter);
      return place == NONE ? NONE : columnAt(shape, place);
    }

    boolean hasColumn(int shape, int column) {
      return placeOfColumn(shape, column) != NONE;
    }

    int letterMask(int shape) {
      int mask = 0;
      for (int letter = 0; letter < LETTERS; letter++) {
        if (placeOfLetter(shape, letter) != NONE) {
          mask |= 1 << letter;
        }
      }
      return mask;
    }

    int columnProperty(int shape, int place, int what) {
      if (place < 0 || place >= width(shape)) {
        return NONE;
      }
      switch (what) {
        case 0:
          return letterAt(shape, place);
        case 1:
          return columnAt(shape, place);
        default:
          return placeOfColumn(newest(), columnAt(shape, place));
      }
    }

    boolean canAdd(int letter) {
      return !isFull() && !newestHas(letter);
    }

    boolean canAddFrom(int letter, int of, int with) {
      return !isFull() && !newestHas(letter) && newestHas(of) && (with == NONE || newestHas(with));
    }

    boolean canDrop(int letter) {
      return !isFull() && newestHas(letter);
    }

    boolean canRename(int letter, int other) {
      return !isFull() && newestHas(letter) && !newestHas(other);
    }

    int extendByNumber(int letter, int number) {
      int shape = comeBy(ADDED_NUMBER);
      put(numbers, shape, number);
      addLast(shape, letter);
      return shape;
    }

    /** Adds a column as a copy, or as a sum if "with" is a letter too. */
    int extendFrom(int letter, int of, int with) {
      int source = columnOfLetter(newest(), of);
      int addend = columnOfLetter(newest(), with);
      int shape = comeBy(with == NONE ? ADDED_COPY : ADDED_SUM);
      put(sources, shape, source);
      put(addends, shape, addend);
      addLast(shape, letter);
      return shape;
    }

    int leaveOut(int letter, int number) {
      int place = placeOfLetter(newest(), letter);
      int column = columnAt(newest(), place);
      int shape = comeBy(DROPPED);
      put(sources, shape, column);
      put(numbers, shape, number);
      closeGap(shape, place);
      return shape;
    }

    int exchangeLetter(int letter, int other) {
      int place = placeOfLetter(newest(), letter);
      int shape = comeBy(RENAMED);
      put(letters, shape * MOST_COLUMNS + place, other);
      return shape;
    }

    /** Retires all shapes that are older than this one; returns how many are left. */
    int setMark(int shape) {
      mark = shape;
      return size - mark;
    }

    /** Takes values, which stand by column, through the changes to a newer shape, if it is one. */
    void carryForth(int[] values, int from, int to) {
      for (int shape = from + 1; shape <= to; shape++) {
        int first = at(values, at(sources, shape));
        switch (at(changes, shape)) {
          case ADDED_NUMBER:
            put(values, shape, at(numbers, shape));
            break;
          case ADDED_COPY:
            put(values, shape, first);
            break;
          case ADDED_SUM:
            put(values, shape, Math.min(first + at(values, at(addends, shape)), MOST_VALUE));
            break;
          default:
            break;
        }
      }
    }

    /**
     * Takes values through the changes backwards to an older shape, if it is one. What an added
     * column leaves behind is not cleared: the way to a shape that has it sets it anew.
     */
    void carryBack(int[] values, int from, int to) {
      for (int shape = from; shape > to; shape--) {
        if (at(changes, shape) == DROPPED) {
          put(values, at(sources, shape), at(numbers, shape));
        }
      }
    }

    void takeFrom(Shapes other) {
      size = other.size;
      mark = other.mark;
      copyAll(other.changes, changes);
      copyAll(other.numbers, numbers);
      copyAll(other.sources, sources);
      copyAll(other.addends, addends);
      copyAll(other.widths, widths);
      copyAll(other.columns, columns);
      copyAll(other.letters, letters);
    }

    private boolean isFull() {
      return size >= MOST_SHAPES;
    }

    private boolean newestHas(int letter) {
      return placeOfLetter(newest(), letter) != NONE;
    }

    private int placeOfLetter(int shape, int letter) {
      int width = at(widths, shape);
      for (int place = 0; place < width; place++) {
        if (at(letters, shape * MOST_COLUMNS + place) == letter) {
          return place;
        }
      }
      return NONE;
    }

    private int placeOfColumn(int shape, int column) {
      int width = at(widths, shape);
      for (int place = 0; place < width; place++) {
        if (at(columns, shape * MOST_COLUMNS + place) == column) {
          return place;
        }
      }
      return NONE;
    }

    private int letterAt(int shape, int place) {
      return at(letters, shape * MOST_COLUMNS + place);
    }

    /** Makes the next shape with the columns of the newest one, for the caller to change. */
    private int comeBy(int change) {
      int shape = size;
      int former = newest();
      put(changes, shape, change);
      put(widths, shape, width(former));
      for (int place = 0; place < width(former); place++) {
        put(columns, shape * MOST_COLUMNS + place, columnAt(former, place));
        put(letters, shape * MOST_COLUMNS + place, letterAt(former, place));
      }
      size++;
      return shape;
    }

    private void addLast(int shape, int letter) {
      int place = width(shape);
      put(widths, shape, place + 1);
      put(columns, shape * MOST_COLUMNS + place, shape);
      put(letters, shape * MOST_COLUMNS + place, letter);
    }

    private void closeGap(int shape, int gap) {
      int last = width(shape) - 1;
      for (int place = gap; place < last; place++) {
        put(columns, shape * MOST_COLUMNS + place, columnAt(shape, place + 1));
        put(letters, shape * MOST_COLUMNS + place, letterAt(shape, place + 1));
      }
      put(widths, shape, last);
    }
  }

  /** The rows, with the cursor that goes over them and what is counted of them. */
  private static final class Rows {
    private int size = 0;
    private int cursor = 0;
    private int rewritten = 0;
    private int writes = 0;
    private final int[] shapes = new int[MOST_ROWS];
    private final int[] rewrites = new int[MOST_ROWS];
    private final int[] values = new int[MOST_ROWS * MOST_SHAPES];

    int size() {
      return size;
    }

    int cursor() {
      return cursor;
    }

    int rewritten() {
      return rewritten;
    }

    int writes() {
      return writes;
    }

    boolean isThere(int row) {
      return row >= 0 && row < size;
    }

    boolean isFull() {
      return size >= MOST_ROWS;
    }

    int shapeOf(int row) {
      return at(shapes, row);
    }

    int rewritesOf(int row) {
      return at(rewrites, row);
    }

    int value(int row, int column) {
      return at(values, row * MOST_SHAPES + column);
    }

    int addRow(int shape) {
      int row = size;
      put(shapes, row, shape);
      put(rewrites, row, 0);
      for (int column = 0; column < MOST_SHAPES; column++) {
        put(values, row * MOST_SHAPES + column, 0);
      }
      size++;
      return row;
    }

    int takeOut(int gone) {
      for (int row = gone + 1; row < size; row++) {
        moveDown(row);
      }
      size--;
      if (cursor > gone) {
        cursor--;
      }
      return size;
    }

    void overwrite(int row, int column, int value) {
      put(values, row * MOST_SHAPES + column, value);
      writes++;
    }

    void rewrite(int row, int shape, int[] others) {
      for (int column = 0; column < MOST_SHAPES; column++) {
        put(values, row * MOST_SHAPES + column, at(others, column));
      }
      put(shapes, row, shape);
      put(rewrites, row, rewritesOf(row) + 1);
      rewritten++;
    }

    /** The row at which the next step begins, if there are rows. */
    int nextRow() {
      return isThere(cursor) ? cursor : 0;
    }

    void setCursor(int number) {
      cursor = number;
    }

    void copyValues(int row, int[] to) {
      for (int column = 0; column < MOST_SHAPES; column++) {
        put(to, column, at(values, row * MOST_SHAPES + column));
      }
    }

    void takeFrom(Rows other) {
      size = other.size;
      cursor = other.cursor;
      rewritten = other.rewritten;
      writes = other.writes;
      copyAll(other.shapes, shapes);
      copyAll(other.rewrites, rewrites);
      copyAll(other.values, values);
    }

    private void moveDown(int row) {
      put(shapes, row - 1, shapeOf(row));
      put(rewrites, row - 1, rewritesOf(row));
      for (int column = 0; column < MOST_SHAPES; column++) {
        put(values, (row - 1) * MOST_SHAPES + column, value(row, column));
      }
    }
  }

  /** All that undo restores: shapes, rows, and the shapes that readers hold. */
  private static final class State {
    final Shapes shapes = new Shapes();
    final Rows rows = new Rows();
    private final int[] held = new int[READERS];
    private final int[] carried = new int[MOST_SHAPES];

    int heldBy(int reader) {
      return at(held, reader);
    }

    int letHold(int reader, int shape) {
      int before = heldBy(reader);
      put(held, reader, shape);
      return before;
    }

    /** The values of a row, by column, as a shape reads them; they stand until the next look. */
    int[] valuesRead(int row, int shape) {
      rows.copyValues(row, carried);
      shapes.carryForth(carried, rows.shapeOf(row), shape);
      shapes.carryBack(carried, rows.shapeOf(row), shape);
      return carried;
    }

    int valueRead(int row, int shape, int letter) {
      int column = shapes.columnOfLetter(shape, letter);
      return column == NONE ? NONE : at(valuesRead(row, shape), column);
    }

    int refusal(int row, int shape, int letter) {
      int column = shapes.columnOfLetter(shape, letter);
      if (column == NONE) {
        return NO_SUCH_LETTER;
      }
      int own = rows.shapeOf(row);
      return own < shape || shapes.hasColumn(own, column) ? WRITABLE : COLUMN_GONE;
    }

    /** Writes a value that is not refused; returns the shape of the row then. */
    int writeValue(int row, int shape, int letter, int value) {
      int column = shapes.columnOfLetter(shape, letter);
      if (!shapes.hasColumn(rows.shapeOf(row), column)) {
        rows.rewrite(row, shape, valuesRead(row, shape));
      }
      rows.overwrite(row, column, value);
      return rows.shapeOf(row);
    }

    int stepOn(int steps) {
      int before = rows.rewritten();
      for (int step = 0; step < steps; step++) {
        stepOnce();
      }
      return rows.rewritten() - before;
    }

    int stepsLeft() {
      int steps = 0;
      for (int step = 0; step < rows.size(); step++) {
        int row = rows.nextRow() + step;
        if (isBehind(row < rows.size() ? row : row - rows.size())) {
          steps = step + 1;
        }
      }
      return steps;
    }

    int rowsBehind() {
      return rows.size() - rowsOfShape(shapes.newest());
    }

    /** The oldest shape that a row has or a reader holds. */
    int oldestNeeded() {
      int oldest = shapes.newest();
      for (int row = 0; row < rows.size(); row++) {
        oldest = Math.min(oldest, rows.shapeOf(row));
      }
      for (int reader = 0; reader < READERS; reader++) {
        oldest = Math.min(oldest, heldBy(reader));
      }
      return oldest;
    }

    int valuesLost(int row, int shape) {
      int own = rows.shapeOf(row);
      int[] values = valuesRead(row, shape);
      shapes.carryForth(values, shape, own);
      shapes.carryBack(values, shape, own);
      int lost = 0;
      for (int place = 0; place < shapes.width(own); place++) {
        int column = shapes.columnAt(own, place);
        if (at(values, column) != rows.value(row, column)) {
          lost++;
        }
      }
      return lost;
    }

    int rowsWith(int shape, int letter, int value) {
      int mask = 0;
      for (int row = 0; row < rows.size(); row++) {
        if (valueRead(row, shape, letter) == value) {
          mask |= 1 << row;
        }
      }
      return mask;
    }

    int shapeProperty(int shape, int what) {
      switch (what) {
        case 0:
          return shapes.width(shape);
        case 1:
          return shapes.changeOf(shape);
        case 2:
          return rowsOfShape(shape);
        case 3:
          return readersOfShape(shape);
        case 4:
          return shapes.isRetired(shape) ? 1 : 0;
        default:
          return shapes.letterMask(shape);
      }
    }

    int rowProperty(int row, int what) {
      int own = rows.shapeOf(row);
      switch (what) {
        case 0:
          return own;
        case 1:
          return shapes.width(own);
        case 2:
          return shapes.newest() - own;
        case 3:
          return rows.rewritesOf(row);
        case 4:
          return sumRead(row, own);
        default:
          return sumRead(row, shapes.newest());
      }
    }

    void takeFrom(State other) {
      shapes.takeFrom(other.shapes);
      rows.takeFrom(other.rows);
      copyAll(other.held, held);
    }

    private void stepOnce() {
      if (rows.size() == 0) {
        return;
      }
      int row = rows.nextRow();
      if (isBehind(row)) {
        rows.rewrite(row, shapes.newest(), valuesRead(row, shapes.newest()));
      }
      rows.setCursor(row + 1);
    }

    private boolean isBehind(int row) {
      return rows.shapeOf(row) < shapes.newest();
    }

    private int sumRead(int row, int shape) {
      int[] values = valuesRead(row, shape);
      int sum = 0;
      for (int place = 0; place < shapes.width(shape); place++) {
        sum += at(values, shapes.columnAt(shape, place));
      }
      return sum;
    }

    private int rowsOfShape(int shape) {
      int sum = 0;
      for (int row = 0; row < rows.size(); row++) {
        if (rows.shapeOf(row) == shape) {
          sum++;
        }
      }
      return sum;
    }

    private int readersOfShape(int shape) {
      int sum = 0;
      for (int reader = 0; reader < READERS; reader++) {
        if (heldBy(reader) == shape) {
          sum++;
        }
      }
      return sum;
    }
  }

  /** The saved states, the oldest one first; the slots are used again and again. */
  private static final class History {
    private final State[] slots = new State[MOST_SAVED];
    private int size = 0;

    History() {
      for (int slot = 0; slot < slots.length; slot++) {
        slots[slot] = new State();
      }
    }

    int size() {
      return size;
    }

    void save(State state) {
      if (size >= MOST_SAVED) {
        dropOldest();
      }
      State slot = slotAt(size);
      if (slot != null) {
        slot.takeFrom(state);
        size++;
      }
    }

    /** Restores the latest saved state, if there is one; returns how many are left. */
    int restore(State state) {
      State slot = slotAt(size - 1);
      if (slot != null) {
        state.takeFrom(slot);
        size--;
      }
      return size;
    }

    private State slotAt(int number) {
      return number >= 0 && number < slots.length ? slots[number] : null;
    }

    private void dropOldest() {
      State oldest = slotAt(0);
      for (int slot = 1; slot < slots.length; slot++) {
        slots[slot - 1] = slots[slot];
      }
      if (size > 0 && size <= slots.length) {
        slots[slots.length - 1] = oldest;
        size--;
      }
    }
  }

  /** The buffer, read as orders by an automaton whose states are the places in an order. */
  private static final class Text {
    private static final int ERROR = -1;
    private static final int AT_ORDER = 0;
    private static final int AT_ADDED = 1;
    private static final int AT_ADDED_SIGN = 2;
    private static final int AT_COPIED = 3;
    private static final int AFTER_COPIED = 4;
    private static final int AT_ADDEND = 5;
    private static final int AT_DROPPED = 6;
    private static final int AT_DROPPED_SIGN = 7;
    private static final int AT_NUMBER = 8;
    private static final int AFTER_DIGIT = 9;
    private static final int AT_FORMER = 10;
    private static final int AT_OTHER = 11;
    private static final int AT_STEPS = 12;
    private static final int AFTER_ONE = 13;
    private static final int AFTER_ORDER = 14;

    private final int[] codes = new int[MOST_CHARACTERS];
    private int length = 0;

    int length() {
      return length;
    }

    boolean isFull() {
      return length >= MOST_CHARACTERS;
    }

    int add(int code) {
      put(codes, length, code);
      length++;
      return length;
    }

    int clear() {
      int before = length;
      length = 0;
      return before;
    }

    int code(int place) {
      return place < length ? at(codes, place) : NONE;
    }

    int letter(int place) {
      return code(place) - 'a';
    }

    int number(int from, int end) {
      int number = 0;
      for (int place = from; place < end; place++) {
        number = 10 * number + (code(place) - '0');
      }
      return number;
    }

    boolean endsOrder(int place) {
      return place == length || code(place) == ';';
    }

    int errorPlace() {
      int state = AT_ORDER;
      for (int place = 0; place < length; place++) {
        state = next(state, code(place));
        if (state == ERROR) {
          return place;
        }
      }
      return length;
    }

    boolean isComplete() {
      int state = AT_ORDER;
      for (int place = 0; place < length; place++) {
        state = next(state, code(place));
      }
      return mayEnd(state);
    }

    private static boolean mayEnd(int state) {
      return state == AFTER_COPIED
          || state == AFTER_DIGIT
          || state == AFTER_ONE
          || state == AFTER_ORDER;
    }

    private static int next(int state, int code) {
      if (code == ';') {
        return mayEnd(state) ? AT_ORDER : ERROR;
      }
      switch (state) {
        case AT_ORDER:
          return afterFirst(code);
        case AT_ADDED_SIGN:
          return code == ':' ? AT_COPIED : oneOf('=', '=', code, AT_NUMBER);
        case AFTER_COPIED:
          return oneOf('+', '+', code, AT_ADDEND);
        case AT_DROPPED_SIGN:
          return oneOf('=', '=', code, AT_NUMBER);
        case AT_NUMBER:
          return code == '0' ? AFTER_ORDER : oneOf('1', '9', code, AFTER_DIGIT);
        case AFTER_DIGIT:
          return oneOf('0', '9', code, AFTER_ORDER);
        case AT_STEPS:
          return code == '1' ? AFTER_ONE : oneOf('2', '9', code, AFTER_ORDER);
        case AFTER_ONE:
          return oneOf('0', '2', code, AFTER_ORDER);
        default:
          return oneOf('a', 'h', code, afterLetter(state));
      }
    }

    private static int afterFirst(int code) {
      switch (code) {
        case '+':
          return AT_ADDED;
        case '-':
          return AT_DROPPED;
        case '>':
          return AT_FORMER;
        case 'n':
          return AFTER_ORDER;
        case '*':
          return AT_STEPS;
        default:
          return ERROR;
      }
    }

    private static int afterLetter(int state) {
      switch (state) {
        case AT_ADDED:
          return AT_ADDED_SIGN;
        case AT_COPIED:
          return AFTER_COPIED;
        case AT_DROPPED:
          return AT_DROPPED_SIGN;
        case AT_FORMER:
          return AT_OTHER;
        case AT_ADDEND:
        case AT_OTHER:
          return AFTER_ORDER;
        default:
          return ERROR;
      }
    }

    /** The state, if the code is from one character to another; otherwise an error. */
    private static int oneOf(char first, char last, int code, int state) {
      return code >= first && code <= last ? state : ERROR;
    }
  }
}
