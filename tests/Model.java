import java.util.ArrayList;
import java.util.HashMap;
import java.util.HashSet;
import java.util.List;
import java.util.Map;
import java.util.Set;
import java.util.TreeSet;

/** The document told once more, by trees and sets and without a thought for speed or room. */
final class Model {
  static final class Wrong extends RuntimeException {
    final int error;
    final int cell;
    Wrong(int error, int cell) { super(null, null, false, false); this.error = error; this.cell = cell; }
  }

  static final class Fault extends RuntimeException {
    final int place;
    Fault(int place) { super(null, null, false, false); this.place = place; }
  }

  static final class Node {
    final String op;
    final double number;
    final int at;
    final Node[] parts;
    Node(String op, double number, int at, Node... parts) {
      this.op = op; this.number = number; this.at = at; this.parts = parts;
    }
  }

  record Token(String text, int place) {}

  static final class Cell {
    int kind = 0;
    Double number = null;
    Node formula = null;
    Cell copy() { Cell c = new Cell(); c.kind = kind; c.number = number; c.formula = formula; return c; }
  }

  static final class Tab {
    int output, one, other;
    double[] ones = {0}, others = {0};
    Tab copy() {
      Tab t = new Tab(); t.output = output; t.one = one; t.other = other;
      t.ones = ones.clone(); t.others = others.clone(); return t;
    }
    int cases() { return ones.length * (other < 0 ? 1 : others.length); }
  }

  static final class Items { int sort; Double[] at; }

  Cell[] cells = new Cell[24];
  Tab[] tabs = new Tab[6];
  Cell[] imageCells = null;
  Tab[] imageTabs = null;
  Items[] rows = new Items[4];
  StringBuilder tape = new StringBuilder();

  Model() { for (int c = 0; c < 24; c++) cells[c] = new Cell(); }

  // ---- numbers

  static double kept(int kind, double v) {
    double r;
    if (kind == 0) r = v;
    else if (kind == 1) r = v < 0 ? Math.ceil(v) : Math.floor(v);
    else if (kind == 2) r = (float) v;
    else if (kind == 3) {
      double w = kept(1, v);
      double m = w % 256;
      if (m < -128) m += 256;
      if (m > 127) m -= 256;
      r = m;
    } else if (kind == 4) r = (float) v % 360f;
    else r = Math.max(-1000, Math.min(1000, v));
    return r + 0.0;
  }

  static long bits(double d) { return Double.doubleToRawLongBits(d); }

  // ---- reading

  static final Set<String> WORDS = Set.of("pick", "min", "max", "sum", "mean", "least", "most", "fails");

  static List<Token> tokens(String s) {
    List<Token> out = new ArrayList<>();
    int k = 0;
    while (true) {
      while (k < s.length() && (s.charAt(k) == ' ' || s.charAt(k) == '\n')) k++;
      if (k == s.length()) { out.add(new Token("", k)); return out; }
      String rest = s.substring(k);
      java.util.regex.Matcher m = java.util.regex.Pattern
          .compile("^(?:[a-z]+|[0-9]+(?:\\.[0-9]*)?|[(),+\\-*/%<=])").matcher(rest);
      if (!m.find()) { out.add(new Token("?", k)); return out; }
      String t = m.group();
      char c = t.charAt(0);
      boolean good = true;
      if (Character.isDigit(c)) good = t.matches("[0-9]{1,4}(\\.[0-9]{1,3})?");
      else if (Character.isLetter(c)) good = t.matches("[a-x]") || WORDS.contains(t);
      if (!good) { out.add(new Token("?", k)); return out; }
      out.add(new Token(t, k));
      k += t.length();
    }
  }

  static final class Parser {
    final List<Token> tokens;
    int k = 0;
    int open = 0;
    Parser(String s) { tokens = tokens(s); }
    String now() { return tokens.get(k).text; }
    Fault fault() { return new Fault(tokens.get(k).place); }
    void want(String t) { if (!now().equals(t)) throw fault(); k++; }
    Node whole() { Node n = e(); if (!now().equals("")) throw fault(); return n; }
    Node e() {
      Node a = sum();
      if (now().equals("<") || now().equals("=")) { String op = now(); k++; return new Node(op, 0, 0, a, sum()); }
      return a;
    }
    Node sum() {
      Node a = term();
      while (now().equals("+") || now().equals("-")) { String op = now(); k++; a = new Node(op, 0, 0, a, term()); }
      return a;
    }
    Node term() {
      Node a = one();
      while (now().equals("*") || now().equals("/") || now().equals("%")) {
        String op = now(); k++; a = new Node(op, 0, 0, a, one());
      }
      return a;
    }
    void opens(String t) { if (!now().equals(t) || open == 4) throw fault(); open++; k++; }
    void closes() { want(")"); open--; }
    Node one() {
      String t = now();
      if (t.matches("[0-9].*")) {
        k++;
        int dot = t.indexOf('.');
        if (dot < 0) return new Node("num", Integer.parseInt(t), 0);
        String f = (t.substring(dot + 1) + "00").substring(0, 3);
        return new Node("num", (Integer.parseInt(t.substring(0, dot)) * 1000 + Integer.parseInt(f)) / 1000.0, 0);
      }
      if (t.matches("[a-x]")) { k++; return new Node("cell", 0, t.charAt(0) - 'a'); }
      if (t.equals("-")) { opens("-"); Node a = one(); open--; return new Node("neg", 0, 0, a); }
      if (t.equals("(")) { opens("("); Node a = e(); closes(); return a; }
      if (t.equals("min") || t.equals("max")) {
        k++; opens("("); Node a = e(); want(","); Node b = e(); closes(); return new Node(t, 0, 0, a, b);
      }
      if (t.equals("pick")) {
        k++; opens("("); Node a = e(); want(","); Node b = e(); want(","); Node c = e(); closes();
        return new Node(t, 0, 0, a, b, c);
      }
      if (WORDS.contains(t)) {
        k++;
        if (!now().matches("[0-9]+") || Integer.parseInt(now()) > 5) throw fault();
        Node n = new Node(t, 0, Integer.parseInt(now()));
        k++;
        return n;
      }
      throw fault();
    }
  }

  // ---- who names whom

  static void cellsIn(Node n, Set<Integer> out) {
    if (n.op.equals("cell")) out.add(n.at);
    for (Node p : n.parts) cellsIn(p, out);
  }

  static boolean asks(Node n) { return !n.op.equals("min") && !n.op.equals("max") && !n.op.equals("pick") && WORDS.contains(n.op); }

  static void tabsIn(Node n, List<Integer> out) {
    if (asks(n)) out.add(n.at);
    for (Node p : n.parts) tabsIn(p, out);
  }

  boolean ring() {
    for (int node = 0; node < 30; node++) if (comesTo(node, node, new HashSet<>())) return true;
    return false;
  }

  Set<Integer> names(int node) {
    Set<Integer> out = new TreeSet<>();
    if (node >= 24) { if (tabs[node - 24] != null) out.add(tabs[node - 24].output); return out; }
    if (cells[node].formula == null) return out;
    cellsIn(cells[node].formula, out);
    List<Integer> asked = new ArrayList<>();
    tabsIn(cells[node].formula, asked);
    for (int t : asked) out.add(24 + t);
    return out;
  }

  boolean comesTo(int from, int to, Set<Integer> seen) {
    for (int n : names(from)) {
      if (n == to) return true;
      if (seen.add(n) && comesTo(n, to, seen)) return true;
    }
    return false;
  }

  Set<Integer> reached(int cell) {
    Set<Integer> out = new TreeSet<>();
    reach(cell, out);
    return out;
  }

  void reach(int cell, Set<Integer> out) {
    if (!out.add(cell)) return;
    for (int n : names(cell)) if (n < 24) reach(n, out);
  }

  Set<Integer> reads(int cell) {
    Set<Integer> out = new TreeSet<>();
    if (cells[cell].formula == null) { out.add(cell); return out; }
    for (int n : names(cell)) {
      if (n < 24) out.addAll(reads(n));
      else if (tabs[n - 24] != null) {
        Tab t = tabs[n - 24];
        Set<Integer> r = reads(t.output);
        r.remove(t.one);
        r.remove(t.other);
        out.addAll(r);
      }
    }
    return out;
  }

  double burden(int cell, Map<Integer, Double> memo) {
    if (cells[cell].formula == null) return 0;
    double sum = 0;
    for (int c : reached(cell)) {
      if (cells[c].formula == null) continue;
      sum++;
      List<Integer> asked = new ArrayList<>();
      tabsIn(cells[c].formula, asked);
      for (int t : asked) if (tabs[t] != null) sum += tabBurden(t, memo);
    }
    return sum;
  }

  double tabBurden(int t, Map<Integer, Double> memo) {
    if (!memo.containsKey(t)) memo.put(t, burden(tabs[t].output, memo) * tabs[t].cases());
    return memo.get(t);
  }

  boolean heavy() {
    Map<Integer, Double> memo = new HashMap<>();
    for (int c = 0; c < 24; c++) if (burden(c, memo) > 2000) return true;
    for (int t = 0; t < 6; t++) if (tabs[t] != null && tabBurden(t, memo) > 2000) return true;
    return false;
  }

  // ---- telling

  final class Env {
    final Map<Integer, Double> inputs = new HashMap<>();
    final Map<Integer, Object> memo = new HashMap<>();
    Env() { for (int c = 0; c < 24; c++) if (cells[c].formula == null && cells[c].number != null) inputs.put(c, cells[c].number); }
    Env(Env from) { inputs.putAll(from.inputs); }

    double value(int cell) {
      Object had = memo.get(cell);
      if (had == null) {
        try { had = fresh(cell); } catch (Wrong w) { had = w; }
        memo.put(cell, had);
      }
      if (had instanceof Wrong w) throw w;
      return (Double) had;
    }

    double fresh(int cell) {
      Cell c = cells[cell];
      if (c.formula != null) return kept(c.kind, tell(c.formula, cell));
      if (!inputs.containsKey(cell)) throw new Wrong(1, cell);
      return kept(c.kind, inputs.get(cell));
    }

    double far(double v, int cell) {
      if (Math.abs(v) > 1e12) throw new Wrong(3, cell);
      return v;
    }

    double tell(Node n, int cell) {
      if (asks(n)) return ask(n, cell);
      switch (n.op) {
        case "num": return n.number;
        case "cell": return value(n.at);
        case "neg": return -tell(n.parts[0], cell);
        case "pick": return tell(n.parts[0], cell) != 0 ? tell(n.parts[1], cell) : tell(n.parts[2], cell);
        default:
      }
      double a = tell(n.parts[0], cell);
      double b = tell(n.parts[1], cell);
      switch (n.op) {
        case "+": return far(a + b, cell);
        case "-": return far(a - b, cell);
        case "*": return far(a * b, cell);
        case "/": if (b == 0) throw new Wrong(2, cell); return far(a / b, cell);
        case "%": if (b == 0) throw new Wrong(2, cell); return a % b;
        case "<": return a < b ? 1 : 0;
        case "=": return a == b ? 1 : 0;
        case "min": return b < a ? b : a;
        case "max": return b > a ? b : a;
        default: throw new IllegalStateException(n.op);
      }
    }

    double ask(Node n, int cell) {
      if (tabs[n.at] == null) throw new Wrong(4, cell);
      Object r = adds(cases(this, n.at), List.of("sum", "mean", "least", "most", "fails").indexOf(n.op));
      if (r instanceof Integer e) throw new Wrong(e, cell);
      return (Double) r;
    }
  }

  /** What each case tells: a Double or a Wrong. */
  List<Object> cases(Env env, int t) {
    List<Object> out = new ArrayList<>();
    Tab tab = tabs[t];
    for (double one : tab.ones) {
      for (double other : tab.other < 0 ? new double[] {0} : tab.others) {
        Env in = new Env(env);
        in.inputs.put(tab.one, one);
        if (tab.other >= 0) in.inputs.put(tab.other, other);
        try { out.add(in.value(tab.output)); } catch (Wrong w) { out.add(w); }
      }
    }
    return out;
  }

  /** SUM, MEAN, LEAST, MOST, FAILS: a Double, or an Integer that is the ERROR. */
  static Object adds(List<Object> cases, int what) {
    List<Double> good = new ArrayList<>();
    for (Object o : cases) if (o instanceof Double d) good.add(d);
    if (what == 4) return (double) (cases.size() - good.size());
    double sum = 0;
    boolean far = false;
    for (double d : good) { sum += d; far |= Math.abs(sum) > 1e12; }
    if (what == 0) return far ? (Object) 3 : (Object) sum;
    if (good.isEmpty()) return 4;
    if (what == 1) return far ? (Object) 3 : (Object) (sum / good.size());
    double r = good.get(0);
    for (double d : good) if (what == 2 ? d < r : d > r) r = d;
    return r;
  }

  long answer(Env env, int cell) {
    try { return bits(env.value(cell)); } catch (Wrong w) { return -20 - w.error; }
  }

  // ---- calls

  static boolean in(int v, int low, int high) { return v >= low && v <= high; }
  static boolean cell(int c) { return in(c, 0, 23); }
  static int mask(Set<Integer> s) { int m = 0; for (int k : s) m |= 1 << k; return m; }

  int set(int c, int v) {
    if (!cell(c) || !in(v, -8000000, 8000000)) return -2;
    if (cells[c].formula != null) return -3;
    cells[c].number = kept(cells[c].kind, v / 8.0);
    return 1;
  }

  int clear(int c) {
    if (!cell(c)) return -2;
    cells[c].number = null;
    cells[c].formula = null;
    return 1;
  }

  int kind(int c, int k) {
    if (!cell(c) || !in(k, 0, 5)) return -2;
    int was = cells[c].kind;
    cells[c].kind = k;
    if (cells[c].number != null) cells[c].number = kept(k, cells[c].number);
    return was;
  }

  int told(int c, int what) {
    if (!cell(c) || !in(what, 0, 7)) return -2;
    Cell x = cells[c];
    if (what == 0) return x.kind;
    if (what == 1) return x.formula != null ? 1 : 0;
    if (what == 2) return mask(reads(c));
    if (what == 3) return mask(reached(c));
    if (what == 4) return (int) burden(c, new HashMap<>());
    if (what == 7) return x.formula == null && x.number == null ? 1 : 0;
    try { new Env().value(c); } catch (Wrong w) { return what == 5 ? w.error : w.cell; }
    return what == 5 ? 0 : -1;
  }

  long value(int c) { return cell(c) ? answer(new Env(), c) : -2; }

  long would(int c, int v, int out) {
    if (!cell(c) || !cell(out) || !in(v, -8000000, 8000000)) return -2;
    if (cells[c].formula != null) return -3;
    Env e = new Env();
    e.inputs.put(c, v / 8.0);
    return answer(e, out);
  }

  int taken(int c, int k) {
    if (!cell(c) || !in(k, 0, 5)) return -2;
    String[] over = {"0", "10", "20", "310", "420", "50"};
    return over[cells[c].kind].indexOf('0' + k) >= 0 ? cells[c].kind : -13;
  }

  int feed(int n, int... b) {
    if (!in(n, 1, 5)) return -2;
    for (int v : b) if (!in(v, 0, 255)) return -2;
    if (tape.length() + n > 96) return -4;
    for (int k = 0; k < n; k++) tape.append((char) b[k]);
    return tape.length();
  }

  int formula(int c) {
    if (!cell(c)) return -2;
    String s = tape.toString();
    tape.setLength(0);
    Node n;
    try { n = new Parser(s).whole(); } catch (Fault f) { return -100 - f.place; }
    for (Tab t : tabs) if (t != null && (t.one == c || t.other == c)) return -3;
    Node was = cells[c].formula;
    cells[c].formula = n;
    int no = ring() ? -5 : heavy() ? -4 : 1;
    if (no != 1) cells[c].formula = was;
    else cells[c].number = null;
    return no;
  }

  int lay(int t, Tab tab) {
    Tab was = tabs[t];
    tabs[t] = tab;
    int no = ring() ? -5 : heavy() ? -4 : 1;
    if (no != 1) tabs[t] = was;
    return no;
  }

  int table(int t, int output, int one, int other) {
    if (!in(t, 0, 5) || !cell(output) || !cell(one) || !in(other, -1, 23) || one == other) return -2;
    if (cells[one].formula != null || other >= 0 && cells[other].formula != null) return -3;
    Tab tab = new Tab();
    tab.output = output;
    tab.one = one;
    tab.other = other;
    return lay(t, tab);
  }

  int vary(int t, int which, double[] by) {
    Tab tab = tabs[t].copy();
    if (which == 0) tab.ones = by; else tab.others = by;
    int no = lay(t, tab);
    return no == 1 ? tab.cases() : no;
  }

  int axis(int t, int which, int start, int step, int n) {
    if (!in(t, 0, 5) || !in(which, 0, 1) || !in(start, -80000, 80000) || !in(step, -8000, 8000) || !in(n, 1, 8)) return -2;
    if (tabs[t] == null || which == 1 && tabs[t].other < 0) return -3;
    double[] by = new double[n];
    for (int k = 0; k < n; k++) by[k] = (start + k * step) / 8.0;
    return vary(t, which, by);
  }

  int axisBy(int t, int which, int row, int from, int n) {
    if (!in(t, 0, 5) || !in(which, 0, 1) || !in(row, 0, 3) || !in(n, 1, 8)) return -2;
    if (tabs[t] == null || which == 1 && tabs[t].other < 0) return -3;
    Items r = rows[row];
    if (r == null) return -11;
    if (r.sort != 3) return -13;
    if (from < 0 || (long) from + n > r.at.length) return -12;
    double[] by = new double[n];
    for (int k = 0; k < n; k++) {
      if (r.at[from + k] == null) return -3;
      by[k] = r.at[from + k];
    }
    return vary(t, which, by);
  }

  int drop(int t) {
    if (!in(t, 0, 5)) return -2;
    if (tabs[t] == null) return -3;
    tabs[t] = null;
    return 1;
  }

  Object inCase(int t, int i, int j) {
    if (!in(t, 0, 5)) return -2;
    if (tabs[t] == null) return -3;
    int wide = tabs[t].cases() / tabs[t].ones.length;
    if (!in(i, 0, tabs[t].ones.length - 1) || !in(j, 0, wide - 1)) return -2;
    return cases(new Env(), t).get(i * wide + j);
  }

  long at(int t, int i, int j) {
    Object o = inCase(t, i, j);
    return o instanceof Integer r ? r : o instanceof Wrong w ? -20 - w.error : bits((Double) o);
  }

  int blame(int t, int i, int j) {
    Object o = inCase(t, i, j);
    return o instanceof Integer r ? r : o instanceof Wrong w ? w.cell : -1;
  }

  long adds(int t, int what) {
    if (!in(t, 0, 5) || !in(what, 0, 4)) return -2;
    if (tabs[t] == null) return -3;
    Object o = adds(cases(new Env(), t), what);
    if (o instanceof Integer e) return -20 - e;
    return what == 4 ? (long) (double) (Double) o : bits((Double) o);
  }

  int unlike(double[] v, int kind) {
    Set<Double> s = new HashSet<>();
    for (double d : v) s.add(kept(kind, d));
    return s.size();
  }

  Set<Integer> slice(int t) {
    Set<Integer> out = new TreeSet<>();
    for (int c : reached(tabs[t].output)) {
      Set<Integer> r = reads(c);
      if (cells[c].formula != null && (r.contains(tabs[t].one) || r.contains(tabs[t].other))) out.add(c);
    }
    return out;
  }

  int toldLeast(int t) {
    Tab tab = tabs[t];
    int all = 0;
    for (int c : reached(tab.output)) {
      if (cells[c].formula == null) continue;
      int n = 1;
      List<Integer> asked = new ArrayList<>();
      tabsIn(cells[c].formula, asked);
      for (int a : asked) if (tabs[a] != null) n += toldLeast(a);
      Set<Integer> r = reads(c);
      if (r.contains(tab.one)) n *= unlike(tab.ones, cells[tab.one].kind);
      if (r.contains(tab.other)) n *= unlike(tab.others, cells[tab.other].kind);
      all += n;
    }
    return all;
  }

  int asks(int t, int what) {
    if (!in(t, 0, 5) || !in(what, 0, 8)) return -2;
    Tab tab = tabs[t];
    if (tab == null) return -3;
    if (what < 2) {
      List<Object> all = cases(new Env(), t);
      Object r = adds(all, 2 + what);
      if (!(r instanceof Double)) return -1;
      int k = all.indexOf(r);
      int wide = tab.cases() / tab.ones.length;
      return k / wide * 10 + k % wide;
    }
    if (what == 2) return mask(slice(t));
    if (what == 3) return toldLeast(t);
    if (what == 4) return (int) tabBurden(t, new HashMap<>());
    if (what == 5) return tab.ones.length;
    if (what == 6) return tab.other < 0 ? 0 : tab.others.length;
    if (what == 7) return unlike(tab.ones, cells[tab.one].kind);
    return tab.other < 0 ? 0 : unlike(tab.others, cells[tab.other].kind);
  }

  int told;

  double f(int input, int c, double x) {
    told++;
    Env e = new Env();
    e.inputs.put(input, x);
    return e.value(c);
  }

  /** What is sought and F there, or null. */
  double[] sought(int input, int c, double l, double h, double want) {
    told = 0;
    try {
      double fl = f(input, c, l);
      double fh = f(input, c, h);
      if (fl == want) return new double[] {l, fl};
      if (fh == want) return new double[] {h, fh};
      if (!(Math.min(fl, fh) < want && want < Math.max(fl, fh))) return null;
      double before = Double.NaN;
      for (int k = 0; k < 40; k++) {
        double m = l + (h - l) / 2;
        if (k > 0 && h - l <= before / 2) {
          double q = l + (want - fl) * (h - l) / (fh - fl);
          if (l < q && q < h) m = q;
        }
        if (!(l < m && m < h)) break;
        before = h - l;
        double fm = f(input, c, m);
        if (fm == want) return new double[] {m, fm};
        if ((fm > want) == (fl > want)) { l = m; fl = fm; } else { h = m; fh = fm; }
      }
      return Math.abs(fh - want) < Math.abs(fl - want) ? new double[] {h, fh} : new double[] {l, fl};
    } catch (Wrong w) { return null; }
  }

  long seek(int input, int c, int low, int high, int want, int part) {
    if (!cell(input) || !cell(c) || !in(low, -80000, 80000) || !in(high, -80000, 80000) || low >= high
        || !in(want, -80000, 80000) || !in(part, 0, 2)) return -2;
    if (cells[input].formula != null) return -3;
    double[] r = sought(input, c, low / 8.0, high / 8.0, want / 8.0);
    return part == 2 ? told : r == null ? -1 : bits(r[part]);
  }

  long swing(int c, int d, int part) {
    if (!cell(c) || !in(d, 1, 80000) || !in(part, 0, 1)) return -2;
    double most = -1;
    int which = -1;
    for (int input : reads(c)) {
      if (cells[input].number == null) continue;
      try {
        double a = f(input, c, cells[input].number + d / 8.0);
        double b = f(input, c, cells[input].number - d / 8.0);
        if (Math.abs(a - b) > most) { most = Math.abs(a - b); which = input; }
      } catch (Wrong w) { continue; }
    }
    return part == 0 || which < 0 ? which : bits(most);
  }

  int chance(int c, int seed, int m, int want, int part) {
    if (!cell(c) || !in(m, 1, 20) || !in(want, -80000, 80000) || !in(part, 0, 1)) return -2;
    int hits = 0;
    for (int k = 0; k < m; k++) {
      int z = seed + k;
      Env e = new Env();
      for (int input : reads(c)) {
        z = z * 1103515245 + 12345;
        e.inputs.put(input, ((z >>> 9) % 401 - 200) / 8.0);
      }
      try { if (e.value(c) >= want / 8.0) hits++; } catch (Wrong w) { continue; }
    }
    int g = java.math.BigInteger.valueOf(hits).gcd(java.math.BigInteger.valueOf(m)).intValue();
    return (part == 0 ? hits : m) / g;
  }

  int film(int t, int row) {
    if (!in(t, 0, 5) || !in(row, 0, 3)) return -2;
    if (tabs[t] == null) return -3;
    List<Object> all = cases(new Env(), t);
    Items r = new Items();
    r.sort = 3;
    r.at = new Double[all.size()];
    for (int k = 0; k < r.at.length; k++) r.at[k] = all.get(k) instanceof Double d ? d : null;
    rows[row] = r;
    return r.at.length;
  }

  int otherwise(List<Object> all, Items r) {
    for (int k = 0; k < all.size(); k++) {
      Double d = all.get(k) instanceof Double x ? x : null;
      if (d == null ? r.at[k] != null : r.at[k] == null || (double) d != r.at[k]) return k;
    }
    return -1;
  }

  int tells(int t, int row, int by, int what) {
    if (!in(t, 0, 5) || !in(row, 0, 3) || !cell(by) || !in(what, 0, 3)) return -2;
    if (tabs[t] == null || what >= 2 && cells[by].formula != null) return -3;
    if (rows[row] == null) return -11;
    if (rows[row].sort != 3) return -13;
    if (rows[row].at.length != tabs[t].cases()) return -2;
    if (what == 0) return otherwise(cases(new Env(), t), rows[row]);
    if (what == 1) {
      int was = cells[by].kind;
      int out = 0;
      for (int k = 0; k < 6; k++) {
        cells[by].kind = k;
        if (otherwise(cases(new Env(), t), rows[row]) < 0) out |= 1 << k;
      }
      cells[by].kind = was;
      return out;
    }
    int many = 0;
    int least = -1;
    for (int v = 20; v >= -20; v--) {
      Env e = new Env();
      e.inputs.put(by, (double) v);
      if (otherwise(cases(e, t), rows[row]) < 0) { many++; least = 1000 + v; }
    }
    return what == 2 ? many : least;
  }

  int image() {
    imageCells = new Cell[24];
    imageTabs = new Tab[6];
    for (int c = 0; c < 24; c++) imageCells[c] = cells[c].copy();
    for (int t = 0; t < 6; t++) imageTabs[t] = tabs[t] == null ? null : tabs[t].copy();
    return count(0);
  }

  int back() {
    if (imageCells == null) return -3;
    for (int c = 0; c < 24; c++) cells[c] = imageCells[c].copy();
    for (int t = 0; t < 6; t++) tabs[t] = imageTabs[t] == null ? null : imageTabs[t].copy();
    return count(0);
  }

  int count(int what) {
    int n = 0;
    if (what == 0) { for (Cell c : cells) if (c.formula != null) n++; return n; }
    if (what == 1) { for (Cell c : cells) if (c.formula == null && c.number != null) n++; return n; }
    if (what == 2) { for (Tab t : tabs) if (t != null) n++; return n; }
    return what == 3 ? tape.length() : -2;
  }

  int row(int row, int sort, int n) {
    if (!in(row, 0, 3) || !in(sort, -1, 3) || sort >= 0 && n > 64) return -2;
    if (sort >= 0 && n < 0) return -14;
    rows[row] = null;
    if (sort < 0) return 1;
    rows[row] = new Items();
    rows[row].sort = sort;
    rows[row].at = new Double[n];
    java.util.Arrays.fill(rows[row].at, 0.0);
    return 1;
  }

  int place(int row, int i) {
    if (!in(row, 0, 3)) return -2;
    if (rows[row] == null) return -11;
    return in(i, 0, rows[row].at.length - 1) ? 1 : -12;
  }

  int put(int row, int i, int v) {
    int no = place(row, i);
    if (no != 1) return no;
    int sort = rows[row].sort;
    rows[row].at[i] = sort == 0 ? (double) (byte) v : sort == 1 ? (double) v : sort == 2 ? (double) (float) (v / 8.0) : v / 8.0;
    return 1;
  }

  long item(int row, int i) {
    int no = place(row, i);
    if (no != 1) return no;
    return rows[row].at[i] == null ? -1 : bits(rows[row].at[i]);
  }

  int copy(int row, int i, int other, int j, int n) {
    if (!in(row, 0, 3) || !in(other, 0, 3)) return -2;
    if (rows[row] == null || rows[other] == null) return -11;
    if (rows[row].sort != rows[other].sort) return -13;
    if (i < 0 || j < 0 || n < 0 || (long) i + n > rows[row].at.length || (long) j + n > rows[other].at.length) return -12;
    Double[] was = rows[row].at.clone();
    for (int k = 0; k < n; k++) rows[other].at[j + k] = was[i + k];
    return n;
  }
}
