/** A calculating sheet with tables that ask what if. ../shared/DOC.md tells what each call must do. */
public final class WhatIfSheet {
  public static final int NONE = -1, BAD = -2, STATE = -3, FULL = -4, RING = -5;

  private static final int MISSING = -11, OUTSIDE = -12, UNLIKE = -13, BELOW = -14;

  private static final int CELLS = 24, TABLES = 6, NODES = 30, ROWS = 4;
  private static final int TAPE_ROOM = 96, AXIS_ROOM = 8, CASE_ROOM = 64, ITEM_ROOM = 64;
  private static final int MOST_BURDEN = 2000, MOST_OPEN = 4, MOST_TRIES = 40;
  // One level of inputs for the sheet itself and one for each table that is asked within another.
  private static final int LEVELS = 7;
  // A formula holds some twenty numbers at once at most, and one waits on each level.
  private static final int STACK_ROOM = 256;

  private static final int PLAIN = 0, WHOLE = 1, SINGLE = 2, SMALL = 3, TURN = 4, CAPPED = 5, KINDS = 6;
  // The KIND that each KIND is under, in their order; -1: none.
  private static final int[] UNDER = {-1, 0, 0, 1, 2, 0};

  private static final int EMPTY = 1, BY_ZERO = 2, TOO_FAR = 3, NO_CASE = 4;
  private static final long FAR = 1000000000000L;

  private static final int BYTES = 0, INTS = 1, FLOATS = 2, DOUBLES = 3;

  private static final int SUM = 0, MEAN = 1, LEAST = 2, MOST = 3, FAILS = 4;

  // What a step of a formula does: it brings a number or a cell, works on what was brought, or asks a table.
  private static final int BRING = 0, LOOK = 1, NEGATE = 2, ADD = 3, TAKE = 4, TIMES = 5, OVER = 6, LEFT = 7;
  private static final int LESS = 8, SAME = 9, MIN = 10, MAX = 11, PICK = 12, ASK = 13;
  private static final int STEP_SHIFT = 24, STEP_MASK = 0xFFFFFF;

  // Tokens that are no signs; a sign's token is its byte.
  private static final int END = 256, NUMBER = 257, PARTED = 258, CELL = 259, CALL = 260, QUESTION = 261, WRONG = 262;

  private final Teller teller;
  private final Board board;
  private final Names names;
  private final Board kept = new Board();
  private boolean imaged;
  private final Reader reader = new Reader();
  private Grid spare = new Grid();
  private final Row[] rows = new Row[ROWS];
  private final Bracket bracket = new Bracket();

  public WhatIfSheet() {
    teller = new Teller();
    board = teller.board;
    names = teller.names;
    for (int r = 0; r < ROWS; r++) rows[r] = new Row();
  }

  // ---- cells

  public int set(int cell, int v) {
    if (!isCell(cell) || !isWithin(v, 8000000)) return BAD;
    if (board.hasFormula(cell)) return STATE;
    board.numbers[cell] = keep(board.kinds[cell], v / 8.0);
    board.filled[cell] = true;
    return 1;
  }

  public int clear(int cell) {
    if (!isCell(cell)) return BAD;
    board.formulas[cell].forget();
    board.filled[cell] = false;
    names.learn(board);
    return 1;
  }

  public int kind(int cell, int k) {
    if (!isCell(cell) || !isKind(k)) return BAD;
    int was = board.kinds[cell];
    board.kinds[cell] = k;
    board.numbers[cell] = keep(k, board.numbers[cell]);
    return was;
  }

  public int told(int cell, int what) {
    if (!isCell(cell)) return BAD;
    switch (what) {
      case 0: return board.kinds[cell];
      case 1: return board.hasFormula(cell) ? 1 : 0;
      case 2: return names.reads[cell];
      case 3: return names.reached[cell];
      case 4: return names.burdens[cell];
      case 5: return errorOf(wrongNow(cell));
      case 6: return blameOf(wrongNow(cell));
      case 7: return board.hasFormula(cell) || board.filled[cell] ? 0 : 1;
      default: return BAD;
    }
  }

  public long value(int cell) {
    if (!isCell(cell)) return BAD;
    int wrong = wrongNow(cell);
    return answer(teller.numbers[0][cell], wrong);
  }

  public long would(int cell, int v, int output) {
    if (!isCell(cell) || !isWithin(v, 8000000) || !isCell(output)) return BAD;
    if (board.hasFormula(cell)) return STATE;
    teller.begin();
    int wrong = teller.tryNumber(cell, v / 8.0, output);
    return answer(teller.numbers[0][output], wrong);
  }

  public int taken(int cell, int k) {
    if (!isCell(cell) || !isKind(k)) return BAD;
    int kind = board.kinds[cell];
    int over = kind;
    for (int step = 0; step < KINDS && isKind(over); step++) {
      if (over == k) return kind;
      over = UNDER[over];
    }
    return UNLIKE;
  }

  // ---- formulas

  public int feed(int n, int a, int b, int c, int d, int e) {
    if (n < 1 || n > 5) return BAD;
    if (!isByte(a) || !isByte(b) || !isByte(c) || !isByte(d) || !isByte(e)) return BAD;
    if (reader.size + n > TAPE_ROOM) return FULL;
    reader.take(a);
    if (n > 1) reader.take(b);
    if (n > 2) reader.take(c);
    if (n > 3) reader.take(d);
    if (n > 4) reader.take(e);
    return reader.size;
  }

  public int formula(int cell) {
    if (!isCell(cell)) return BAD;
    int fault = reader.read();
    reader.size = 0;
    if (fault != NONE) return -100 - fault;
    if (board.isVaried(cell)) return STATE;
    if (hasNode(names.allNamed(board, reader.made.named), cell)) return RING;
    if (!takeFormula(cell)) return FULL;
    board.filled[cell] = false;
    return 1;
  }

  // ---- tables

  public int table(int t, int output, int one, int other) {
    if (!isTable(t) || !isCell(output) || !isCell(one)) return BAD;
    if (other != NONE && !isCell(other) || one == other) return BAD;
    if (board.hasFormula(one) || other != NONE && board.hasFormula(other)) return STATE;
    if (hasNode(names.allNamed(board, 1 << output), CELLS + t)) return RING;
    spare.lay(output, one, other);
    return laySpare(t) ? 1 : FULL;
  }

  public int axis(int t, int which, int start, int step, int n) {
    if (!isTable(t) || which < 0 || which > 1 || n < 1 || n > AXIS_ROOM) return BAD;
    if (!isWithin(start, 80000) || !isWithin(step, 8000)) return BAD;
    if (!canVary(t, which)) return STATE;
    spare.become(board.grids[t]);
    for (int k = 0; k < n; k++) spare.vary(which, k, (start + k * step) / 8.0);
    spare.cut(which, n);
    return laySpare(t) ? board.grids[t].cases() : FULL;
  }

  public int axisBy(int t, int which, int row, int from, int n) {
    if (!isTable(t) || which < 0 || which > 1 || !isRow(row) || n < 1 || n > AXIS_ROOM) return BAD;
    if (!canVary(t, which)) return STATE;
    Row by = rows[row];
    if (by.sort == NONE) return MISSING;
    if (by.sort != DOUBLES) return UNLIKE;
    if (!by.holds(from, n)) return OUTSIDE;
    if (by.hasFailed(from, n)) return STATE;
    spare.become(board.grids[t]);
    for (int k = 0; k < n; k++) spare.vary(which, k, by.items[from + k]);
    spare.cut(which, n);
    return laySpare(t) ? board.grids[t].cases() : FULL;
  }

  public int drop(int t) {
    if (!isTable(t)) return BAD;
    if (!board.grids[t].laid) return STATE;
    board.grids[t].laid = false;
    names.learn(board);
    return 1;
  }

  public long at(int t, int i, int j) {
    int refusal = refuseCase(t, i, j);
    if (refusal != 1) return refusal;
    int wrong = wrongIn(t, i, j);
    return answer(teller.numbers[1][board.grids[t].output], wrong);
  }

  public int blame(int t, int i, int j) {
    int refusal = refuseCase(t, i, j);
    return refusal != 1 ? refusal : blameOf(wrongIn(t, i, j));
  }

  public long adds(int t, int what) {
    if (!isTable(t) || what < SUM || what > FAILS) return BAD;
    if (!board.grids[t].laid) return STATE;
    Tally tally = tallyNow(t);
    if (what == FAILS) return tally.fails;
    int error = tally.errorIn(what);
    if (error != 0) return -20 - error;
    double number = tally.numberOf(what);
    // A sum just below 0 can have a mean of -0, the only one that is ever answered.
    return number == 0 && tally.sum < 0 && what == MEAN ? 1L << 63 : bits(number);
  }

  public int asks(int t, int what) {
    if (!isTable(t) || what < 0 || what > 8) return BAD;
    Grid grid = board.grids[t];
    if (!grid.laid) return STATE;
    switch (what) {
      case 0: return grid.placeOf(tallyNow(t).leastCase);
      case 1: return grid.placeOf(tallyNow(t).mostCase);
      case 2: return names.slice(board, t);
      case 3: return names.leastTold(board, t);
      case 4: return names.burdens[CELLS + t];
      case 5: return grid.oneCount;
      case 6: return grid.otherCount;
      case 7: return board.unlikeOnes(t);
      default: return board.unlikeOthers(t);
    }
  }

  // ---- what was wanted

  public long seek(int input, int cell, int low, int high, int want, int part) {
    if (!isCell(input) || !isCell(cell) || part < 0 || part > 2) return BAD;
    if (!isWithin(low, 80000) || !isWithin(high, 80000) || low >= high || !isWithin(want, 80000)) return BAD;
    if (board.hasFormula(input)) return STATE;
    bracket.open(low / 8.0, high / 8.0, want / 8.0);
    closeIn(input, cell);
    if (part == 2) return bracket.told;
    if (!bracket.ended) return NONE;
    return bits(part == 0 ? bracket.found : bracket.there);
  }

  public long swing(int cell, int d, int part) {
    if (!isCell(cell) || d < 1 || d > 80000 || part < 0 || part > 1) return BAD;
    teller.begin();
    int widest = NONE;
    double most = -1;
    for (int input = 0; input < CELLS; input++) {
      if (!hasNode(names.reads[cell], input) || !board.filled[input]) continue;
      double apart = apartBy(cell, input, d / 8.0);
      if (apart > most) {
        most = apart;
        widest = input;
      }
    }
    if (part == 0 || widest == NONE) return widest;
    return bits(most);
  }

  public int chance(int cell, int seed, int m, int want, int part) {
    if (!isCell(cell) || m < 1 || m > 20 || !isWithin(want, 80000) || part < 0 || part > 1) return BAD;
    teller.begin();
    int hits = 0;
    for (int k = 0; k < m; k++) {
      int wrong = teller.tryDrawn(cell, seed + k);
      if (wrong == 0 && teller.numbers[0][cell] >= want / 8.0) hits++;
    }
    int common = commonPart(m, hits);
    if (common < 1) return BAD;
    return (part == 0 ? hits : m) / common;
  }

  // ---- what was told

  public int film(int t, int row) {
    if (!isTable(t) || !isRow(row)) return BAD;
    if (!board.grids[t].laid) return STATE;
    rows[row].become(tallyNow(t));
    return rows[row].size;
  }

  public int tells(int t, int row, int by, int what) {
    if (!isTable(t) || !isRow(row) || !isCell(by) || what < 0 || what > 3) return BAD;
    if (!board.grids[t].laid || what >= 2 && board.hasFormula(by)) return STATE;
    Row of = rows[row];
    if (of.sort == NONE) return MISSING;
    if (of.sort != DOUBLES) return UNLIKE;
    if (of.size != board.grids[t].cases()) return BAD;
    if (what == 0) return of.firstOtherwise(tallyNow(t));
    return what == 1 ? kindsSo(t, of, by) : numbersSo(t, of, by, what == 3);
  }

  // ---- images

  public int image() {
    kept.become(board);
    imaged = true;
    return board.formulaCount();
  }

  public int back() {
    if (!imaged) return STATE;
    board.become(kept);
    names.learn(board);
    return board.formulaCount();
  }

  public int count(int what) {
    switch (what) {
      case 0: return board.formulaCount();
      case 1: return board.numberCount();
      case 2: return board.laidCount();
      case 3: return reader.size;
      default: return BAD;
    }
  }

  // ---- rows

  public int row(int row, int sort, int n) {
    if (!isRow(row) || sort < NONE || sort > DOUBLES) return BAD;
    if (sort != NONE && n > ITEM_ROOM) return BAD;
    if (sort != NONE && n < 0) return BELOW;
    rows[row].renew(sort, sort == NONE ? 0 : n);
    return 1;
  }

  public int put(int row, int i, int v) {
    if (!isRow(row)) return BAD;
    Row to = rows[row];
    if (to.sort == NONE) return MISSING;
    if (!to.holds(i, 1)) return OUTSIDE;
    to.items[i] = asSort(to.sort, v);
    to.failed[i] = false;
    return 1;
  }

  public long item(int row, int i) {
    if (!isRow(row)) return BAD;
    Row of = rows[row];
    if (of.sort == NONE) return MISSING;
    if (!of.holds(i, 1)) return OUTSIDE;
    return of.failed[i] ? NONE : bits(of.items[i]);
  }

  public int copy(int row, int i, int other, int j, int n) {
    if (!isRow(row) || !isRow(other)) return BAD;
    Row from = rows[row];
    Row to = rows[other];
    if (from.sort == NONE || to.sort == NONE) return MISSING;
    if (from.sort != to.sort) return UNLIKE;
    if (!from.holds(i, n) || !to.holds(j, n)) return OUTSIDE;
    System.arraycopy(from.items, i, to.items, j, n);
    System.arraycopy(from.failed, i, to.failed, j, n);
    return n;
  }

  // ---- what the calls share

  private static boolean isCell(int cell) {
    return cell >= 0 && cell < CELLS;
  }

  private static boolean isTable(int t) {
    return t >= 0 && t < TABLES;
  }

  private static boolean isRow(int row) {
    return row >= 0 && row < ROWS;
  }

  private static boolean isKind(int k) {
    return k >= 0 && k < KINDS;
  }

  private static boolean isByte(int b) {
    return b >= 0 && b <= 255;
  }

  private static boolean isWithin(int v, int most) {
    return v >= -most && v <= most;
  }

  private static boolean hasNode(int nodes, int node) {
    return (nodes >> node & 1) != 0;
  }

  // An ERROR and the CELL to BLAME travel as one number; 0 is none.
  private static int wrongBy(int error, int cell) {
    return error * 32 + cell;
  }

  private static int errorOf(int wrong) {
    return wrong / 32;
  }

  private static int blameOf(int wrong) {
    return wrong == 0 ? NONE : wrong % 32;
  }

  private static long answer(double number, int wrong) {
    return wrong == 0 ? bits(number) : -20 - errorOf(wrong);
  }

  private int wrongNow(int cell) {
    teller.begin();
    teller.tellCells(0, names.reached[cell]);
    return teller.wrongs[0][cell];
  }

  private Tally tallyNow(int t) {
    teller.begin();
    teller.tellTable(0, t);
    return teller.tallies[t];
  }

  private int refuseCase(int t, int i, int j) {
    if (!isTable(t)) return BAD;
    Grid grid = board.grids[t];
    if (!grid.laid) return STATE;
    return i < 0 || i >= grid.oneCount || j < 0 || j >= grid.columns() ? BAD : 1;
  }

  private int wrongIn(int t, int i, int j) {
    Grid grid = board.grids[t];
    teller.begin();
    teller.enter(1);
    teller.supposeCase(1, grid, i, j);
    teller.tellCells(1, names.reached[grid.output]);
    return teller.wrongs[1][grid.output];
  }

  /** Puts the formula that was read in its place, unless a BURDEN would become too much. */
  private boolean takeFormula(int cell) {
    Formula before = board.formulas[cell];
    board.formulas[cell] = reader.made;
    names.learn(board);
    if (names.areTooHeavy()) {
      board.formulas[cell] = before;
      names.learn(board);
      return false;
    }
    reader.made = before;
    return true;
  }

  /** Puts the spare grid in its place, unless a BURDEN would become too much. */
  private boolean laySpare(int t) {
    Grid before = board.grids[t];
    board.grids[t] = spare;
    names.learn(board);
    if (names.areTooHeavy()) {
      board.grids[t] = before;
      names.learn(board);
      return false;
    }
    spare = before;
    return true;
  }

  private boolean canVary(int t, int which) {
    Grid grid = board.grids[t];
    return grid.laid && (which == 0 || grid.other != NONE);
  }

  /** Lets the bracket close in on what is wanted; it stays not ended where nothing is found. */
  private void closeIn(int input, int cell) {
    teller.begin();
    bracket.told = 1;
    if (teller.tryNumber(input, bracket.low, cell) != 0) return;
    bracket.atLow = teller.numbers[0][cell];
    bracket.told = 2;
    if (teller.tryNumber(input, bracket.high, cell) != 0) return;
    bracket.atHigh = teller.numbers[0][cell];
    if (bracket.endsAtOnce() || !bracket.isBetween()) return;
    boolean halved = false;
    for (int k = 0; k < MOST_TRIES; k++) {
      double middle = bracket.middle(halved);
      if (!bracket.isInside(middle)) break;
      bracket.told++;
      if (teller.tryNumber(input, middle, cell) != 0) return;
      double there = teller.numbers[0][cell];
      if (there == bracket.want) {
        bracket.end(middle, there);
        return;
      }
      halved = bracket.narrow(middle, there);
    }
    bracket.endNearer();
  }

  /** How far apart a cell's VALUES are, an input's NUMBER being d more and d less; -1, if one is an ERROR. */
  private double apartBy(int cell, int input, double d) {
    double number = board.numbers[input];
    int wrong = teller.tryNumber(input, number + d, cell);
    double more = teller.numbers[0][cell];
    int wrongLess = teller.tryNumber(input, number - d, cell);
    double less = teller.numbers[0][cell];
    teller.suppose(input, number);
    if (wrong != 0 || wrongLess != 0) return -1;
    return more < less ? less - more : more - less;
  }

  private static int commonPart(int a, int b) {
    int one = a;
    int other = b;
    for (int k = 0; k < 32 && other != 0; k++) {
      int rest = one % other;
      one = other;
      other = rest;
    }
    return one;
  }

  private int kindsSo(int t, Row row, int by) {
    int was = board.kinds[by];
    int kinds = 0;
    for (int k = 0; k < KINDS; k++) {
      board.kinds[by] = k;
      if (row.firstOtherwise(tallyNow(t)) == NONE) kinds |= 1 << k;
    }
    board.kinds[by] = was;
    return kinds;
  }

  private int numbersSo(int t, Row row, int by, boolean least) {
    int many = 0;
    teller.begin();
    for (int number = -20; number <= 20; number++) {
      teller.suppose(by, number);
      teller.tellTable(0, t);
      if (row.firstOtherwise(teller.tallies[t]) != NONE) continue;
      if (least) return 1000 + number;
      many++;
    }
    return least ? NONE : many;
  }

  private static double asSort(int sort, int v) {
    switch (sort) {
      case BYTES: return (byte) v;
      case INTS: return v;
      case FLOATS: return (float) (v / 8.0);
      default: return v / 8.0;
    }
  }

  // ---- numbers

  /** A number as KEPT by a KIND. */
  private static double keep(int kind, double v) {
    double as = v;
    switch (kind) {
      case WHOLE: as = (long) v; break;
      case SINGLE: as = (float) v; break;
      case SMALL: as = (byte) (long) v; break;
      case TURN: as = leftOver((float) v, 360.0); break;
      case CAPPED: as = v < -1000.0 ? -1000.0 : v > 1000.0 ? 1000.0 : v; break;
      default: break;
    }
    return as == 0.0 ? 0.0 : as;
  }

  /** The machine's a % b, b not 0, by steps that are all exact; of floats too, whose % has no other outcome. */
  private static double leftOver(double a, double b) {
    double left = a < 0 ? -a : a;
    double by = b < 0 ? -b : b;
    int doubled = 0;
    // The smallest number doubles some 1120 times below the largest that a sheet holds.
    for (; doubled < 1200 && by < left; doubled++) by = by * 2;
    for (; doubled >= 0; doubled--) {
      if (left >= by) left = left - by;
      by = by / 2;
    }
    return a < 0 ? -left : left;
  }

  /** The 64 bits of a number, but for the sign of a 0. */
  private static long bits(double number) {
    if (number == 0) return 0;
    double size = number < 0 ? -number : number;
    int power = 0;
    for (; power < 1023 && size >= 2; power++) size = size / 2;
    for (; power > -1022 && size < 1; power--) size = size * 2;
    boolean normal = size >= 1;
    long part = (long) ((normal ? size - 1 : size) * 4503599627370496.0);
    long sign = number < 0 ? 1L << 63 : 0;
    long high = normal ? (long) (power + 1023) << 52 : 0;
    return sign | high | part;
  }

  /** A FORMULA as steps for a stack, its parts ahead of what works on them; no steps: there is none. */
  private static final class Formula {
    final int[] steps = new int[TAPE_ROOM];
    int size;
    int named;
    final int[] times = new int[TABLES];

    void forget() {
      size = 0;
      named = 0;
      for (int t = 0; t < TABLES; t++) times[t] = 0;
    }

    void become(Formula other) {
      System.arraycopy(other.steps, 0, steps, 0, other.size);
      System.arraycopy(other.times, 0, times, 0, TABLES);
      size = other.size;
      named = other.named;
    }

    void add(int act, int what) {
      if (size < TAPE_ROOM) steps[size++] = act << STEP_SHIFT | what;
    }

    void nameCell(int cell) {
      named |= 1 << cell;
    }

    void nameTable(int t) {
      named |= 1 << CELLS + t;
      times[t]++;
    }
  }

  /** A TABLE: what it asks, and the numbers that it varies through, not yet KEPT. */
  private static final class Grid {
    boolean laid;
    int output;
    int one;
    int other;
    int oneCount;
    int otherCount;
    final double[] ones = new double[AXIS_ROOM];
    final double[] others = new double[AXIS_ROOM];

    void lay(int ofOutput, int byOne, int byOther) {
      laid = true;
      output = ofOutput;
      one = byOne;
      other = byOther;
      oneCount = 1;
      otherCount = byOther == NONE ? 0 : 1;
      ones[0] = 0;
      others[0] = 0;
    }

    void become(Grid from) {
      laid = from.laid;
      output = from.output;
      one = from.one;
      other = from.other;
      oneCount = from.oneCount;
      otherCount = from.otherCount;
      System.arraycopy(from.ones, 0, ones, 0, AXIS_ROOM);
      System.arraycopy(from.others, 0, others, 0, AXIS_ROOM);
    }

    void vary(int which, int k, double number) {
      if (k < 0 || k >= AXIS_ROOM) return;
      if (which == 0) ones[k] = number;
      else others[k] = number;
    }

    void cut(int which, int n) {
      if (which == 0) oneCount = n;
      else otherCount = n;
    }

    int columns() {
      return otherCount > 0 ? otherCount : 1;
    }

    int cases() {
      return oneCount * columns();
    }

    int placeOf(int inOrder) {
      int wide = columns();
      return inOrder == NONE || wide < 1 ? NONE : inOrder / wide * 10 + inOrder % wide;
    }

    boolean varies(int cell) {
      return laid && (one == cell || other == cell);
    }

    int varied() {
      return other == NONE ? 1 << one : 1 << one | 1 << other;
    }
  }

  /** All that an IMAGE keeps. */
  private static final class Board {
    final int[] kinds = new int[CELLS];
    final double[] numbers = new double[CELLS];
    final boolean[] filled = new boolean[CELLS];
    final Formula[] formulas = new Formula[CELLS];
    final Grid[] grids = new Grid[TABLES];

    Board() {
      for (int c = 0; c < CELLS; c++) formulas[c] = new Formula();
      for (int t = 0; t < TABLES; t++) grids[t] = new Grid();
    }

    void become(Board other) {
      System.arraycopy(other.kinds, 0, kinds, 0, CELLS);
      System.arraycopy(other.numbers, 0, numbers, 0, CELLS);
      System.arraycopy(other.filled, 0, filled, 0, CELLS);
      for (int c = 0; c < CELLS; c++) formulas[c].become(other.formulas[c]);
      for (int t = 0; t < TABLES; t++) grids[t].become(other.grids[t]);
    }

    boolean hasFormula(int cell) {
      return formulas[cell].size > 0;
    }

    boolean isVaried(int cell) {
      for (int t = 0; t < TABLES; t++) {
        if (grids[t].varies(cell)) return true;
      }
      return false;
    }

    int formulaCount() {
      int many = 0;
      for (int c = 0; c < CELLS; c++) {
        if (hasFormula(c)) many++;
      }
      return many;
    }

    int numberCount() {
      int many = 0;
      for (int c = 0; c < CELLS; c++) {
        if (filled[c]) many++;
      }
      return many;
    }

    int laidCount() {
      int many = 0;
      for (int t = 0; t < TABLES; t++) {
        if (grids[t].laid) many++;
      }
      return many;
    }

    int unlikeOnes(int t) {
      Grid grid = grids[t];
      return unlike(grid.ones, grid.oneCount, kinds[grid.one]);
    }

    int unlikeOthers(int t) {
      Grid grid = grids[t];
      return grid.other == NONE ? 0 : unlike(grid.others, grid.otherCount, kinds[grid.other]);
    }

    private static int unlike(double[] numbers, int count, int kind) {
      int many = 0;
      for (int k = 0; k < count; k++) {
        boolean first = true;
        for (int before = 0; before < k; before++) {
          if (keep(kind, numbers[before]) == keep(kind, numbers[k])) first = false;
        }
        if (first) many++;
      }
      return many;
    }
  }

  /** Who names whom, and what comes of that. CELLS are nodes 0 .. 23, TABLES the nodes behind them. */
  private static final class Names {
    // Every node stands behind all that it names.
    final int[] order = new int[NODES];
    final int[] reached = new int[CELLS];
    final int[] reads = new int[CELLS];
    final int[] burdens = new int[NODES];
    // What a cell alone adds to a BURDEN.
    private final int[] shares = new int[CELLS];
    private final int[] least = new int[TABLES];

    /** Of a new board, where all are inputs. */
    Names() {
      for (int node = 0; node < NODES; node++) order[node] = node;
      for (int c = 0; c < CELLS; c++) {
        reached[c] = 1 << c;
        reads[c] = 1 << c;
      }
    }

    private static int namedBy(Board board, int node) {
      if (node < CELLS) return board.formulas[node].named;
      Grid grid = board.grids[node - CELLS];
      return grid.laid ? 1 << grid.output : 0;
    }

    /** These nodes and all that they come to name. */
    int allNamed(Board board, int nodes) {
      int all = nodes;
      int before = 0;
      for (int round = 0; round < NODES && all != before; round++) {
        before = all;
        for (int node = 0; node < NODES; node++) {
          if (hasNode(all, node)) all |= namedBy(board, node);
        }
      }
      return all;
    }

    void learn(Board board) {
      arrange(board);
      for (int k = 0; k < NODES; k++) {
        int node = order[k];
        if (node >= CELLS) learnTable(board, node - CELLS);
        else if (board.hasFormula(node)) learnFormula(board, node);
        else learnInput(node);
      }
    }

    private void arrange(Board board) {
      int placed = 0;
      int many = 0;
      for (int round = 0; round < NODES && many < NODES; round++) {
        for (int node = 0; node < NODES; node++) {
          boolean ready = !hasNode(placed, node) && (namedBy(board, node) & ~placed) == 0;
          if (ready && many < NODES) {
            placed |= 1 << node;
            order[many++] = node;
          }
        }
      }
    }

    private void learnInput(int cell) {
      reached[cell] = 1 << cell;
      reads[cell] = 1 << cell;
      burdens[cell] = 0;
      shares[cell] = 0;
    }

    private void learnFormula(Board board, int cell) {
      Formula formula = board.formulas[cell];
      int reach = 1 << cell;
      int read = 0;
      for (int c = 0; c < CELLS; c++) {
        if (!hasNode(formula.named, c)) continue;
        reach |= reached[c];
        read |= reads[c];
      }
      int share = 1;
      for (int t = 0; t < TABLES; t++) {
        Grid grid = board.grids[t];
        if (formula.times[t] == 0 || !grid.laid) continue;
        read |= reads[grid.output] & ~grid.varied();
        share = bounded((long) formula.times[t] * burdens[CELLS + t] + share);
      }
      reached[cell] = reach;
      reads[cell] = read;
      shares[cell] = share;
      long burden = 0;
      for (int c = 0; c < CELLS; c++) {
        if (hasNode(reach, c)) burden += shares[c];
      }
      burdens[cell] = bounded(burden);
    }

    private void learnTable(Board board, int t) {
      Grid grid = board.grids[t];
      burdens[CELLS + t] = grid.laid ? bounded((long) burdens[grid.output] * grid.cases()) : 0;
    }

    // One above the most is refused as surely as any more, and never grows too large to add.
    private static int bounded(long burden) {
      return burden > MOST_BURDEN ? MOST_BURDEN + 1 : (int) burden;
    }

    boolean areTooHeavy() {
      for (int node = 0; node < NODES; node++) {
        if (burdens[node] > MOST_BURDEN) return true;
      }
      return false;
    }

    int slice(Board board, int t) {
      Grid grid = board.grids[t];
      int cells = 0;
      for (int c = 0; c < CELLS; c++) {
        boolean moved = (reads[c] & grid.varied()) != 0;
        if (moved && hasNode(reached[grid.output], c) && board.hasFormula(c)) cells |= 1 << c;
      }
      return cells;
    }

    int leastTold(Board board, int t) {
      for (int k = 0; k < NODES; k++) {
        int node = order[k];
        if (node >= CELLS && board.grids[node - CELLS].laid) learnLeast(board, node - CELLS);
      }
      return least[t];
    }

    private void learnLeast(Board board, int t) {
      Grid grid = board.grids[t];
      int ones = board.unlikeOnes(t);
      int others = board.unlikeOthers(t);
      int all = 0;
      for (int c = 0; c < CELLS; c++) {
        if (!hasNode(reached[grid.output], c) || !board.hasFormula(c)) continue;
        int told = 1;
        for (int named = 0; named < TABLES; named++) {
          if (board.grids[named].laid) told += board.formulas[c].times[named] * least[named];
        }
        if (hasNode(reads[c], grid.one)) told *= ones;
        if (grid.other != NONE && hasNode(reads[c], grid.other)) told *= others;
        all += told;
      }
      least[t] = all;
    }
  }

  /** Holds THE TAPE and reads it as a FORMULA. */
  private static final class Reader {
    final int[] tape = new int[TAPE_ROOM];
    int size;
    Formula made = new Formula();
    private int begin;
    private int behind;
    private int token;
    private int worth;
    private int fault;

    void take(int b) {
      if (size < TAPE_ROOM) tape[size++] = b;
    }

    /** Makes the formula: the place of its FAULT, or NONE. */
    int read() {
      made.forget();
      fault = NONE;
      behind = 0;
      look();
      readWhole(0);
      if (token != END) stop();
      return fault;
    }

    private void stop() {
      if (fault == NONE) fault = begin;
    }

    private void readWhole(int open) {
      readSum(open);
      if (fault != NONE || token != '<' && token != '=') return;
      int act = token == '<' ? LESS : SAME;
      look();
      readSum(open);
      made.add(act, 0);
    }

    private void readSum(int open) {
      readTerm(open);
      for (int k = 0; k < TAPE_ROOM && fault == NONE && (token == '+' || token == '-'); k++) {
        int act = token == '+' ? ADD : TAKE;
        look();
        readTerm(open);
        made.add(act, 0);
      }
    }

    private void readTerm(int open) {
      readOne(open);
      for (int k = 0; k < TAPE_ROOM && fault == NONE && isByTerm(); k++) {
        int act = token == '*' ? TIMES : token == '/' ? OVER : LEFT;
        look();
        readOne(open);
        made.add(act, 0);
      }
    }

    private boolean isByTerm() {
      return token == '*' || token == '/' || token == '%';
    }

    private void readOne(int open) {
      switch (token) {
        case NUMBER:
        case PARTED: made.add(BRING, worth); look(); break;
        case CELL: made.add(LOOK, worth); made.nameCell(worth); look(); break;
        case CALL: readCall(open); break;
        case QUESTION: readQuestion(); break;
        case '-': readNegated(open); break;
        case '(': readParts(open, 1); break;
        default: stop();
      }
    }

    private void readNegated(int open) {
      if (open >= MOST_OPEN) {
        stop();
        return;
      }
      look();
      readOne(open + 1);
      made.add(NEGATE, 0);
    }

    private void readCall(int open) {
      int act = worth;
      look();
      readParts(open, act == PICK ? 3 : 2);
      made.add(act, 0);
    }

    /** Reads as many parts as told, with commas between, in brackets. */
    private void readParts(int open, int parts) {
      if (open >= MOST_OPEN || token != '(') {
        stop();
        return;
      }
      for (int k = 0; k < parts && fault == NONE; k++) {
        look();
        readWhole(open + 1);
        if (fault == NONE && token != (k < parts - 1 ? ',' : ')')) stop();
      }
      if (fault == NONE) look();
    }

    private void readQuestion() {
      int what = worth;
      look();
      if (token != NUMBER || worth > (TABLES - 1) * 1000) {
        stop();
        return;
      }
      int t = worth / 1000;
      made.add(ASK + what, t);
      made.nameTable(t);
      look();
    }

    /** Goes on to the token behind the one that is looked at. */
    private void look() {
      int at = behind;
      while (at < size && isBlank(tape[at])) at++;
      begin = at;
      behind = at;
      token = END;
      if (at >= size) return;
      int first = tape[at];
      if (isLetter(first)) lookAtWord();
      else if (isDigit(first)) lookAtNumber();
      else {
        token = isSign(first) ? first : WRONG;
        behind = at + 1;
      }
    }

    private static boolean isBlank(int b) {
      return b == 32 || b == 10;
    }

    private static boolean isLetter(int b) {
      return b >= 'a' && b <= 'z';
    }

    private static boolean isDigit(int b) {
      return b >= '0' && b <= '9';
    }

    private static boolean isSign(int b) {
      return b == '(' || b == ')' || b == ',' || b == '+' || b == '-' || b == '*' || b == '/' || b == '%'
          || b == '<' || b == '=';
    }

    private void lookAtNumber() {
      int thousandths = 0;
      int whole = 0;
      int parted = 0;
      int at = begin;
      for (; at < size && isDigit(tape[at]); at++) {
        if (whole < 4) thousandths = thousandths * 10 + (tape[at] - '0') * 1000;
        whole++;
      }
      boolean point = at < size && tape[at] == '.';
      if (point) at++;
      int tenth = 100;
      for (; point && at < size && isDigit(tape[at]); at++) {
        thousandths += (tape[at] - '0') * tenth;
        tenth = tenth / 10;
        parted++;
      }
      behind = at;
      worth = thousandths;
      token = point ? PARTED : NUMBER;
      if (whole > 4 || parted > 3 || point && parted == 0) token = WRONG;
    }

    private void lookAtWord() {
      int at = begin;
      while (at < size && isLetter(tape[at])) at++;
      behind = at;
      if (at - begin == 1) {
        worth = tape[begin] - 'a';
        token = worth < CELLS ? CELL : WRONG;
        return;
      }
      token = CALL;
      if (isWord("pick")) worth = PICK;
      else if (isWord("min")) worth = MIN;
      else if (isWord("max")) worth = MAX;
      else token = QUESTION;
      if (token == CALL) return;
      if (isWord("sum")) worth = SUM;
      else if (isWord("mean")) worth = MEAN;
      else if (isWord("least")) worth = LEAST;
      else if (isWord("most")) worth = MOST;
      else if (isWord("fails")) worth = FAILS;
      else token = WRONG;
    }

    private boolean isWord(String word) {
      if (word.length() != behind - begin) return false;
      for (int k = 0; k < word.length(); k++) {
        if (tape[begin + k] != word.charAt(k)) return false;
      }
      return true;
    }
  }

  /** What all CASES of a TABLE told. */
  private static final class Tally {
    int count;
    final double[] values = new double[CASE_ROOM];
    final int[] wrongs = new int[CASE_ROOM];
    int fails;
    double sum;
    boolean tooFar;
    double least;
    double most;
    int leastCase;
    int mostCase;

    void restart() {
      count = 0;
      fails = 0;
      sum = 0;
      tooFar = false;
      least = 0;
      most = 0;
      leastCase = NONE;
      mostCase = NONE;
    }

    void take(double number, int wrong) {
      if (count >= CASE_ROOM) return;
      values[count] = number;
      wrongs[count] = wrong;
      if (wrong == 0) takeNumber(number);
      else fails++;
      count++;
    }

    private void takeNumber(double number) {
      if (!tooFar) sum = sum + number;
      if (sum > FAR || sum < -FAR) tooFar = true;
      if (leastCase == NONE || number < least) {
        least = number;
        leastCase = count;
      }
      if (mostCase == NONE || number > most) {
        most = number;
        mostCase = count;
      }
    }

    /** The ERROR of SUM, MEAN, LEAST, MOST or FAILS; 0: none. */
    int errorIn(int what) {
      if (what >= MEAN && what <= MOST && count - fails < 1) return NO_CASE;
      return what <= MEAN && tooFar ? TOO_FAR : 0;
    }

    /** SUM, MEAN, LEAST, MOST or FAILS where it is no ERROR. */
    double numberOf(int what) {
      int good = count - fails;
      switch (what) {
        case SUM: return sum;
        case MEAN: return good < 1 ? 0 : sum / good;
        case LEAST: return least;
        case MOST: return most;
        default: return fails;
      }
    }
  }

  /** Tells formulas and tables. Level 0 has the inputs as they are or are supposed, each table asked one more. */
  private static final class Teller {
    final Board board = new Board();
    final Names names = new Names();
    final Tally[] tallies = new Tally[TABLES];
    final double[][] numbers = new double[LEVELS][CELLS];
    final int[][] wrongs = new int[LEVELS][CELLS];
    private final double[] stack = new double[STACK_ROOM];
    private final int[] stackWrongs = new int[STACK_ROOM];
    private int top;

    Teller() {
      for (int t = 0; t < TABLES; t++) tallies[t] = new Tally();
    }

    void begin() {
      top = 0;
      for (int c = 0; c < CELLS; c++) {
        numbers[0][c] = keep(board.kinds[c], board.numbers[c]);
        wrongs[0][c] = board.filled[c] ? 0 : wrongBy(EMPTY, c);
      }
    }

    void suppose(int input, double number) {
      numbers[0][input] = keep(board.kinds[input], number);
      wrongs[0][input] = 0;
    }

    /** Tells a cell, were an input's number this: what is wrong with it. */
    int tryNumber(int input, double number, int cell) {
      suppose(input, number);
      tellCells(0, names.reached[cell]);
      return wrongs[0][cell];
    }

    int tryDrawn(int cell, int seed) {
      int z = seed;
      for (int input = 0; input < CELLS; input++) {
        if (!hasNode(names.reads[cell], input)) continue;
        z = z * 1103515245 + 12345;
        suppose(input, ((z >>> 9) % 401 - 200) / 8.0);
      }
      tellCells(0, names.reached[cell]);
      return wrongs[0][cell];
    }

    /** Tells those of these cells that have formulas, by the inputs of a level. */
    private void tellCells(int level, int cells) {
      for (int k = 0; k < NODES; k++) {
        int cell = names.order[k];
        if (cell < CELLS && hasNode(cells, cell) && board.hasFormula(cell)) tellFormula(level, cell);
      }
    }

    private void tellFormula(int level, int cell) {
      Formula formula = board.formulas[cell];
      int base = top;
      for (int k = 0; k < formula.size; k++) {
        int act = formula.steps[k] >> STEP_SHIFT;
        int what = formula.steps[k] & STEP_MASK;
        if (act == BRING) push(what / 1000.0, 0);
        else if (act == LOOK && isCell(what)) push(numbers[level][what], wrongs[level][what]);
        else if (act >= ASK && isTable(what)) ask(level, cell, what, act - ASK);
        else if (act == NEGATE) negate();
        else if (act == PICK) pickPart();
        else workOnTwo(act, cell);
      }
      if (base >= STACK_ROOM) return;
      top = base;
      wrongs[level][cell] = stackWrongs[base];
      numbers[level][cell] = stackWrongs[base] == 0 ? keep(board.kinds[cell], stack[base]) : 0;
    }

    private void push(double number, int wrong) {
      if (top >= STACK_ROOM) return;
      stack[top] = number;
      stackWrongs[top] = wrong;
      top++;
    }

    private void negate() {
      if (top >= 1) stack[top - 1] = -stack[top - 1];
    }

    private void pickPart() {
      if (top < 3) return;
      top -= 2;
      if (stackWrongs[top - 1] != 0) return;
      int taken = stack[top - 1] != 0 ? top : top + 1;
      stack[top - 1] = stack[taken];
      stackWrongs[top - 1] = stackWrongs[taken];
    }

    private void workOnTwo(int act, int cell) {
      if (top < 2) return;
      top--;
      if (stackWrongs[top - 1] != 0) return;
      stackWrongs[top - 1] = stackWrongs[top];
      if (stackWrongs[top] != 0) return;
      double a = stack[top - 1];
      double b = stack[top];
      if ((act == OVER || act == LEFT) && b == 0) {
        stackWrongs[top - 1] = wrongBy(BY_ZERO, cell);
        return;
      }
      double made = a;
      switch (act) {
        case ADD: made = a + b; break;
        case TAKE: made = a - b; break;
        case TIMES: made = a * b; break;
        case OVER: made = b == 0 ? a : a / b; break;
        case LEFT: made = b == 0 ? a : leftOver(a, b); break;
        case LESS: made = a < b ? 1 : 0; break;
        case SAME: made = a == b ? 1 : 0; break;
        case MIN: made = b < a ? b : a; break;
        case MAX: made = b > a ? b : a; break;
        default: break;
      }
      boolean tooFar = act >= ADD && act <= OVER && (made > FAR || made < -FAR);
      if (tooFar) stackWrongs[top - 1] = wrongBy(TOO_FAR, cell);
      else stack[top - 1] = made;
    }

    private void ask(int level, int cell, int t, int what) {
      if (!board.grids[t].laid) {
        push(0, wrongBy(NO_CASE, cell));
        return;
      }
      tellTable(level, t);
      int error = tallies[t].errorIn(what);
      if (error != 0) push(0, wrongBy(error, cell));
      else push(tallies[t].numberOf(what), 0);
    }

    /** Tells all CASES of a laid table by the inputs of a level, the tables within it by the levels above. */
    private void tellTable(int level, int t) {
      Grid grid = board.grids[t];
      Tally tally = tallies[t];
      tally.restart();
      int within = level + 1;
      if (within >= LEVELS) return;
      enter(within);
      int cells = names.reached[grid.output];
      int slice = names.slice(board, t);
      for (int i = 0; i < grid.oneCount; i++) {
        for (int j = 0; j < grid.columns(); j++) {
          supposeCase(within, grid, i, j);
          tellCells(within, cells);
          tally.take(numbers[within][grid.output], wrongs[within][grid.output]);
          // What reads neither input stays as the first case told it.
          cells = slice;
        }
      }
    }

    void enter(int level) {
      if (level < 1 || level >= LEVELS) return;
      System.arraycopy(numbers[level - 1], 0, numbers[level], 0, CELLS);
      System.arraycopy(wrongs[level - 1], 0, wrongs[level], 0, CELLS);
    }

    void supposeCase(int level, Grid grid, int i, int j) {
      if (level < 1 || level >= LEVELS || i < 0 || i >= AXIS_ROOM || j < 0 || j >= AXIS_ROOM) return;
      numbers[level][grid.one] = keep(board.kinds[grid.one], grid.ones[i]);
      wrongs[level][grid.one] = 0;
      if (grid.other == NONE) return;
      numbers[level][grid.other] = keep(board.kinds[grid.other], grid.others[j]);
      wrongs[level][grid.other] = 0;
    }
  }

  /** The bracket that closes in on what is SOUGHT. */
  private static final class Bracket {
    double low;
    double high;
    double want;
    double atLow;
    double atHigh;
    int told;
    boolean ended;
    double found;
    double there;

    void open(double from, double to, double wanted) {
      low = from;
      high = to;
      want = wanted;
      told = 0;
      ended = false;
    }

    void end(double x, double at) {
      ended = true;
      found = x;
      there = at;
    }

    boolean endsAtOnce() {
      if (atLow == want) end(low, atLow);
      else if (atHigh == want) end(high, atHigh);
      return ended;
    }

    boolean isBetween() {
      return atLow < want && want < atHigh || atHigh < want && want < atLow;
    }

    boolean isInside(double x) {
      return x > low && x < high;
    }

    double middle(boolean halved) {
      double half = low + (high - low) / 2;
      double rise = atHigh - atLow;
      if (!halved || rise == 0) return half;
      double along = low + (want - atLow) * (high - low) / rise;
      return isInside(along) ? along : half;
    }

    /** Takes x for one of its ends: whether it became half as wide or less. */
    boolean narrow(double x, double at) {
      double wide = high - low;
      if (at < want == atLow < want) {
        low = x;
        atLow = at;
      } else {
        high = x;
        atHigh = at;
      }
      return high - low <= wide / 2;
    }

    void endNearer() {
      double byLow = atLow < want ? want - atLow : atLow - want;
      double byHigh = atHigh < want ? want - atHigh : atHigh - want;
      if (byHigh < byLow) end(high, atHigh);
      else end(low, atLow);
    }
  }

  /** A ROW: its items as doubles, whatever its sort; of no sort while it is missing. */
  private static final class Row {
    int sort = NONE;
    int size;
    final double[] items = new double[ITEM_ROOM];
    final boolean[] failed = new boolean[ITEM_ROOM];

    void renew(int ofSort, int n) {
      sort = ofSort;
      size = n;
      for (int k = 0; k < ITEM_ROOM; k++) {
        items[k] = 0;
        failed[k] = false;
      }
    }

    void become(Tally tally) {
      renew(DOUBLES, tally.count);
      for (int k = 0; k < size && k < ITEM_ROOM; k++) {
        items[k] = tally.values[k];
        failed[k] = tally.wrongs[k] != 0;
      }
    }

    boolean holds(int from, int n) {
      return n >= 0 && n <= size && from >= 0 && from <= size - n;
    }

    boolean hasFailed(int from, int n) {
      for (int k = from; k < from + n && k < ITEM_ROOM; k++) {
        if (failed[k]) return true;
      }
      return false;
    }

    /** The first case that told otherwise than this row, or NONE. */
    int firstOtherwise(Tally tally) {
      for (int k = 0; k < size && k < tally.count; k++) {
        boolean fails = tally.wrongs[k] != 0;
        if (failed[k] != fails || !fails && items[k] != tally.values[k]) return k;
      }
      return NONE;
    }
  }
}
