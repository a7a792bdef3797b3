import java.util.Random;

/** Runs of drawn calls (the same ones each time), each answer beside the model's. */
public final class RandomRunsTest {
  private static final int[] ODD = {
    Integer.MIN_VALUE, Integer.MAX_VALUE, -2, -1, 0, 1, 2, 3, 4, 5, 6, 7, 8, 9, 20, 21, 23, 24, 31, 32, 63, 64, 65, 96,
    255, 256, 8000, 8001, 80000, 80001, -80000, -80001, 8000000, 8000001, -8000000, -8000001, Integer.MAX_VALUE - 3
  };

  private static Random r;
  private static WhatIfSheet x;
  private static Model m;
  private static int run;
  private static int step;
  private static int oddness;
  private static int cellsUsed;
  private static int tablesUsed;

  /** Nearly always what is told, else something odd. */
  private static int or(int usual) {
    return r.nextInt(1000) < oddness ? ODD[r.nextInt(ODD.length)] : usual;
  }

  private static int below(int n) { return r.nextInt(n); }
  private static int input() { return or(below(Math.max(1, cellsUsed / 2))); }
  private static int any() { return or(below(cellsUsed)); }
  private static int tab() { return or(below(tablesUsed)); }
  private static int rowNo() { return or(below(4)); }
  private static int small(int most) { return or(below(2 * most + 1) - most); }

  private static int eighths() {
    switch (below(6)) {
      case 0: return or(8 * (below(41) - 20));
      case 1: return or(below(321) - 160);
      case 2: return or(below(16000001) - 8000000);
      case 3: return or(8 * (below(1001) - 500));
      case 4: return or(below(5) - 2);
      default: return or(8 * (below(7) - 3));
    }
  }

  private static void same(String call, long got, long want) {
    Check.due("run " + run + " call " + step + ": " + call, got, want);
  }

  // ---- texts

  private static String blanks() { return below(12) == 0 ? (below(2) == 0 ? " " : "\n") : ""; }

  private static String name(int under) {
    int c = below(10) == 0 ? below(24) : below(Math.max(1, under));
    return "" + (char) ('a' + c);
  }

  private static String number() {
    switch (below(8)) {
      case 0: return "" + below(10000);
      case 1: return below(100) + "." + below(10);
      case 2: return below(10) + "." + below(10) + below(10);
      case 3: return below(1000) + "." + below(10) + below(10) + below(10);
      case 4: return "0.001";
      case 5: return "0";
      default: return "" + below(10);
    }
  }

  private static String one(int deep, int under) {
    int k = below(deep > 0 ? 16 : 8);
    if (k < 5) return name(under);
    if (k < 7) return number();
    if (k == 7) {
      String[] asks = {"sum", "mean", "least", "most", "fails"};
      return asks[below(5)] + blanks() + (below(30) == 0 ? "00" : "") + below(below(20) == 0 ? 8 : tablesUsed);
    }
    if (k < 10) return "-" + blanks() + one(deep - 1, under);
    if (k < 12) return "(" + whole(deep - 1, under) + ")";
    if (k == 12) return "min(" + whole(deep - 1, under) + "," + blanks() + whole(deep - 1, under) + ")";
    if (k == 13) return "max (" + whole(deep - 1, under) + "," + whole(deep - 1, under) + blanks() + ")";
    return "pick(" + whole(deep - 1, under) + "," + whole(deep - 1, under) + "," + whole(deep - 1, under) + ")";
  }

  private static String term(int deep, int under) {
    StringBuilder s = new StringBuilder(one(deep, under));
    while (below(4) == 0) s.append(blanks()).append("*/%".charAt(below(3))).append(blanks()).append(one(deep, under));
    return s.toString();
  }

  private static String sum(int deep, int under) {
    StringBuilder s = new StringBuilder(term(deep, under));
    while (below(3) == 0) s.append(blanks()).append("+-".charAt(below(2))).append(term(deep, under));
    return s.toString();
  }

  private static String whole(int deep, int under) {
    String s = sum(deep, under);
    return below(8) == 0 ? s + "<=".charAt(below(2)) + sum(deep, under) : s;
  }

  private static String text(int under) {
    String s = blanks() + whole(1 + below(5), under) + blanks();
    for (int tries = 0; s.length() > 96 && tries < 20; tries++) s = whole(1 + below(3), under);
    if (s.length() > 96) s = name(under);
    if (below(12) != 0) return s;
    String signs = "abxyz0159.(),+-*/%<= \n\tA\u00ff;sumpickmin";
    StringBuilder b = new StringBuilder(s);
    for (int k = below(3); k >= 0; k--) {
      int at = below(b.length() + 1);
      char c = signs.charAt(below(signs.length()));
      if (below(2) == 0 && b.length() < 96) b.insert(at, c);
      else if (at < b.length()) { if (below(2) == 0) b.setCharAt(at, c); else b.deleteCharAt(at); }
    }
    return b.toString();
  }

  private static void feed(int n, int a, int b, int c, int d, int e) {
    same("feed " + n + " " + a + " " + b + " " + c + " " + d + " " + e, x.feed(n, a, b, c, d, e), m.feed(n, a, b, c, d, e));
  }

  private static void formula() {
    int cell = below(8) == 0 ? any() : or(below(cellsUsed));
    if (cell < cellsUsed / 2 && below(4) != 0) cell = or(cellsUsed / 2 + below(cellsUsed - cellsUsed / 2));
    String s = text(Math.min(cell, 24));
    for (int k = 0; k < s.length(); k += 5) {
      int n = Math.min(5, s.length() - k);
      int[] b = {9, 0, 255, 32, 97};
      for (int i = 0; i < n; i++) b[i] = s.charAt(k + i);
      feed(n, b[0], b[1], b[2], b[3], b[4]);
    }
    same("formula " + cell + " of <" + m.tape + ">", x.formula(cell), m.formula(cell));
  }

  // ---- calls

  private static void cells() {
    int c = any();
    int in = input();
    int k = or(below(6));
    int v = eighths();
    switch (below(9)) {
      case 0: case 1: case 2: same("set " + in + " " + v, x.set(in, v), m.set(in, v)); break;
      case 3: if (below(4) == 0) same("clear " + c, x.clear(c), m.clear(c)); break;
      case 4: same("kind " + c + " " + k, x.kind(c, k), m.kind(c, k)); break;
      case 5: int w = or(below(8)); same("told " + c + " " + w, x.told(c, w), m.told(c, w)); break;
      case 6: same("value " + c, x.value(c), m.value(c)); break;
      case 7: same("would " + in + " " + v + " " + c, x.would(in, v, c), m.would(in, v, c)); break;
      default: same("taken " + c + " " + k, x.taken(c, k), m.taken(c, k));
    }
  }

  private static void tables() {
    int t = tab();
    int i = or(below(8));
    int j = or(below(3) == 0 ? below(8) : 0);
    int n = or(1 + below(8));
    if (below(6) == 0) n = 8;
    int w;
    switch (below(14)) {
      case 0: case 1: case 2:
        int out = or(cellsUsed / 2 + below(cellsUsed - cellsUsed / 2));
        int one = input();
        int other = below(2) == 0 ? -1 : input();
        same("table " + t + " " + out + " " + one + " " + other, x.table(t, out, one, other), m.table(t, out, one, other));
        break;
      case 3: case 4:
        w = or(below(2));
        int start = below(3) == 0 ? or(below(160001) - 80000) : small(80);
        int by = below(4) == 0 ? or(below(16001) - 8000) : small(16);
        same("axis " + t + " " + w + " " + start + " " + by + " " + n, x.axis(t, w, start, by, n), m.axis(t, w, start, by, n));
        break;
      case 5:
        w = or(below(2));
        int row = rowNo();
        int from = or(below(10));
        same("axisBy " + t + " " + w + " " + row + " " + from + " " + n, x.axisBy(t, w, row, from, n), m.axisBy(t, w, row, from, n));
        break;
      case 6: if (below(4) == 0) same("drop " + t, x.drop(t), m.drop(t)); break;
      case 7: case 8: same("at " + t + " " + i + " " + j, x.at(t, i, j), m.at(t, i, j)); break;
      case 9: same("blame " + t + " " + i + " " + j, x.blame(t, i, j), m.blame(t, i, j)); break;
      case 10: case 11: w = or(below(5)); same("adds " + t + " " + w, x.adds(t, w), m.adds(t, w)); break;
      default: w = or(below(9)); same("asks " + t + " " + w, x.asks(t, w), m.asks(t, w));
    }
  }

  /** A number between what two inputs tell, where both tell one. */
  private static int between(int in, int c, int low, int high, int otherwise) {
    double a = Double.longBitsToDouble(m.would(in, low, c));
    double b = Double.longBitsToDouble(m.would(in, high, c));
    double want = (a + (b - a) * below(11) / 10) * 8;
    return Math.abs(want) <= 80000 ? (int) want : otherwise;
  }

  private static void wanted() {
    int c = or(cellsUsed / 2 + below(cellsUsed - cellsUsed / 2));
    if (below(10) == 0) c = any();
    int p = or(below(2));
    switch (below(3)) {
      case 0:
        int in = input();
        int low = below(3) == 0 ? or(below(160001) - 80000) : small(200);
        int high = below(8) == 0 ? small(100) : or(low + 1 + below(400));
        int want = below(4) == 0 ? or(below(160001) - 80000) : small(200);
        if (below(4) != 0) want = between(in, c, low, high, want);
        int q = or(below(3));
        same("seek " + in + " " + c + " " + low + " " + high + " " + want + " " + q,
            x.seek(in, c, low, high, want, q), m.seek(in, c, low, high, want, q));
        break;
      case 1:
        int d = or(1 + below(below(2) == 0 ? 16 : 80000));
        same("swing " + c + " " + d + " " + p, x.swing(c, d, p), m.swing(c, d, p));
        break;
      default:
        int seed = or(r.nextInt());
        int many = or(1 + below(20));
        int w = small(200);
        same("chance " + c + " " + seed + " " + many + " " + w + " " + p, x.chance(c, seed, many, w, p), m.chance(c, seed, many, w, p));
    }
  }

  private static void toldByTables() {
    int t = tab();
    int row = rowNo();
    if (below(2) == 0) same("film " + t + " " + row, x.film(t, row), m.film(t, row));
    for (int k = below(4); k > 0; k--) {
      int by = below(2) == 0 ? input() : any();
      int w = or(below(4));
      same("tells " + t + " " + row + " " + by + " " + w, x.tells(t, row, by, w), m.tells(t, row, by, w));
    }
  }

  private static void images() {
    int w = or(below(4));
    switch (below(8)) {
      case 0: same("image", x.image(), m.image()); break;
      case 1: same("back", x.back(), m.back()); break;
      default: same("count " + w, x.count(w), m.count(w));
    }
  }

  private static void rows() {
    int row = rowNo();
    int other = rowNo();
    int i = or(below(12));
    int j = or(below(12));
    int n = or(below(10));
    int v = below(3) == 0 ? or(r.nextInt()) : eighths();
    switch (below(6)) {
      case 0: int s = or(below(3) == 0 ? below(5) - 1 : 3); same("row " + row + " " + s + " " + n, x.row(row, s, n), m.row(row, s, n)); break;
      case 1: case 2: case 3: same("put " + row + " " + i + " " + v, x.put(row, i, v), m.put(row, i, v)); break;
      case 4: same("item " + row + " " + i, x.item(row, i), m.item(row, i)); break;
      default:
        same("copy " + row + " " + i + " " + other + " " + j + " " + n, x.copy(row, i, other, j, n), m.copy(row, i, other, j, n));
    }
  }

  /** All that a sheet tells of itself. */
  private static void look() {
    for (int c = 0; c < 24; c++) {
      for (int w = 0; w < 8; w++) same("told " + c + " " + w, x.told(c, w), m.told(c, w));
      same("value " + c, x.value(c), m.value(c));
    }
    for (int t = 0; t < 6; t++) {
      for (int w = 0; w < 9; w++) same("asks " + t + " " + w, x.asks(t, w), m.asks(t, w));
      for (int w = 0; w < 5; w++) same("adds " + t + " " + w, x.adds(t, w), m.adds(t, w));
    }
    for (int w = 0; w < 4; w++) same("count " + w, x.count(w), m.count(w));
    for (int row = 0; row < 4; row++) {
      for (int i = 0; i < 64; i++) same("item " + row + " " + i, x.item(row, i), m.item(row, i));
    }
  }

  private static void layTable(int t, int size) {
    int out = cellsUsed / 2 + below(cellsUsed - cellsUsed / 2);
    int one = below(Math.max(1, cellsUsed / 2));
    int other = below(2) == 0 ? -1 : below(Math.max(1, cellsUsed / 2));
    same("table " + t + " " + out + " " + one + " " + other, x.table(t, out, one, other), m.table(t, out, one, other));
    for (int w = 0; w < 2; w++) {
      int start = below(64) - 32;
      int by = below(17) - 8;
      int n = 1 + below(size);
      same("axis " + t + " " + w + " " + start + " " + by + " " + n, x.axis(t, w, start, by, n), m.axis(t, w, start, by, n));
    }
  }

  /** Numbers, formulas, tables and rows to begin with, so that most questions have answers. */
  private static void prepare() {
    step = -1;
    for (int c = 0; c < cellsUsed / 2; c++) {
      int k = below(3) == 0 ? below(6) : 0;
      int v = eighths();
      if (below(10) != 0) same("set " + c + " " + v, x.set(c, v), m.set(c, v));
      same("kind " + c + " " + k, x.kind(c, k), m.kind(c, k));
    }
    for (int k = 0; k < cellsUsed; k++) {
      formula();
      if (below(3) == 0) layTable(below(tablesUsed), 1 + below(8));
    }
    for (int row = 0; row < 4; row++) {
      int sort = below(3) == 0 ? below(4) : 3;
      int n = below(20);
      same("row " + row + " " + sort + " " + n, x.row(row, sort, n), m.row(row, sort, n));
      for (int i = 0; i < n; i++) {
        int v = eighths();
        same("put " + row + " " + i + " " + v, x.put(row, i, v), m.put(row, i, v));
      }
    }
  }

  private static void oneRun(int calls) {
    x = new WhatIfSheet();
    m = new Model();
    oddness = below(3) == 0 ? 0 : below(60);
    cellsUsed = 4 + below(21);
    tablesUsed = 1 + below(6);
    if (below(5) != 0) prepare();
    int rowsToo = below(3);
    for (step = 0; step < calls; step++) {
      int k = below(40);
      if (k < 8) formula();
      else if (k < 18) cells();
      else if (k < 28) tables();
      else if (k < 31) wanted();
      else if (k < 33) toldByTables();
      else if (k < 34) images();
      else if (k < 34 + 2 * rowsToo) rows();
      else cells();
    }
    look();
  }

  public static void main(String[] args) {
    int first = args.length > 0 ? Integer.parseInt(args[0]) : 1;
    int runs = args.length > 1 ? Integer.parseInt(args[1]) : 600;
    for (run = first; run < first + runs; run++) {
      r = new Random(run);
      oneRun(40 + below(260));
    }
    Check.end();
  }
}
