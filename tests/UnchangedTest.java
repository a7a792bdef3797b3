/**
 * Refusals, by the promises' numbers: each one that the document names, just outside of what is taken and far outside,
 * the first of two, and that it changed nothing; and questions, behind which the sheet is as it was.
 */
public final class UnchangedTest {
  private static final int LEAST = Integer.MIN_VALUE, MOST = Integer.MAX_VALUE;
  private static final int[] NO_CELLS = {-1, 24, LEAST, MOST};
  private static final int[] NO_TABLES = {-1, 6, LEAST, MOST};
  private static final int[] NO_ROWS = {-1, 4, LEAST, MOST};
  private static final int A = 0, B = 1, C = 2, D = 3, E = 4, F = 5, G = 6, J = 9, M = 12, U = 20, V = 21, X = 23;
  private static final int NONE = -1, BAD = -2, STATE = -3, FULL = -4, RING = -5;
  private static final int MISSING = -11, OUTSIDE = -12, UNLIKE = -13, BELOW = -14;

  private static void refused(String name, Twins.Call call, int want) {
    Twins.refused(name, Sheets::rich, call, want);
  }

  private static void bad(String name, Twins.Call call) {
    refused(name, call, BAD);
  }

  private static void cells() {
    for (int c : NO_CELLS) {
      bad("2: no cell", x -> x.set(c, 8));
      bad("3: no cell", x -> x.clear(c));
      bad("4: no cell", x -> x.kind(c, 1));
      bad("5: no cell", x -> x.told(c, 0));
      bad("6: no cell", x -> x.value(c));
      bad("7: no cell", x -> x.would(c, 8, E));
      bad("7: no output", x -> x.would(A, 8, c));
      bad("7: no output ahead of a formula", x -> x.would(E, 8, c));
      bad("8: no cell", x -> x.taken(c, 0));
    }
    for (int v : new int[] {-8000001, 8000001, LEAST, MOST}) {
      bad("2: number", x -> x.set(A, v));
      bad("2: number of an empty one", x -> x.set(C, v));
      bad("2: number ahead of a formula", x -> x.set(E, v));
      bad("7: number", x -> x.would(A, v, E));
      bad("7: number ahead of a formula", x -> x.would(E, v, E));
    }
    for (int k : new int[] {-1, 6, LEAST, MOST}) {
      bad("4: kind", x -> x.kind(A, k));
      bad("4: kind of a formula", x -> x.kind(E, k));
      bad("8: kind", x -> x.taken(A, k));
    }
    for (int what : new int[] {-1, 8, LEAST, MOST}) bad("5: what", x -> x.told(A, what));
    refused("2: a formula", x -> x.set(E, 8), STATE);
    refused("7: a formula", x -> x.would(E, 8, F), STATE);
    refused("8: not under", x -> x.taken(A, 1), UNLIKE);
    refused("8: not the other way", x -> x.taken(B, 3), UNLIKE);
    refused("8: not beside", x -> x.taken(B, 2), UNLIKE);
  }

  private static void feed() {
    for (int n : new int[] {0, 6, -1, LEAST, MOST}) bad("9: n", x -> x.feed(n, 97, 97, 97, 97, 97));
    for (int b : new int[] {-1, 256, LEAST, MOST}) {
      bad("9: first", x -> x.feed(1, b, 0, 0, 0, 0));
      bad("9: second, not asked", x -> x.feed(1, 97, b, 0, 0, 0));
      bad("9: third, not asked", x -> x.feed(2, 97, 97, b, 0, 0));
      bad("9: fourth, not asked", x -> x.feed(3, 97, 97, 97, b, 0));
      bad("9: fifth, not asked", x -> x.feed(4, 97, 97, 97, 97, b));
      bad("9: fifth, asked", x -> x.feed(5, 97, 97, 97, 97, b));
    }
    for (int n = 1; n <= 5; n++) {
      int many = n;
      Twins.Maker room = () -> fed(96 - many + 1);
      Twins.refused("9: no room for " + n, room, x -> x.feed(many, 43, 43, 43, 43, 43), FULL);
      Twins.refused("9: bad ahead of full", room, x -> x.feed(many, 43, 43, 43, 43, 256), BAD);
      WhatIfSheet x = fed(96 - n);
      Check.due("9: just room for " + n, x.feed(n, 32, 32, 32, 32, 32), 96);
      Check.due("9: all of it is read", x.formula(A), 1);
    }
    WhatIfSheet x = fed(96);
    Check.due("9: full", x.count(3), 96);
    Check.due("9: all of it is read", x.formula(A), 1);
  }

  /** A sheet with so many bytes on its tape. */
  private static WhatIfSheet fed(int size) {
    WhatIfSheet x = new WhatIfSheet();
    StringBuilder text = new StringBuilder("b*2");
    while (text.length() < size) text.append(' ');
    Check.type(x, text.toString());
    return x;
  }

  /** A formula that is refused empties the tape and changes nothing else. */
  private static void formulaRefused(String name, Twins.Maker maker, int cell, String text, int want) {
    Twins.Call call = x -> {
      x.formula(22);
      x.clear(22);
      return Check.tell(x, cell, text);
    };
    WhatIfSheet y = maker.make();
    Check.due(name, call.on(y), want);
    Check.due(name + ": the tape is empty", y.count(3), 0);
    Twins.butTape(name, maker, call);
  }

  private static void formula() {
    for (int c : NO_CELLS) {
      bad("10: no cell, the tape stays", x -> x.formula(c));
      Twins.refused("10: no cell, with a fault", () -> typed("a b"), x -> x.formula(c), BAD);
    }
    Twins.Maker rich = Sheets::rich;
    formulaRefused("10: fault", rich, V, "a+41 c", -105);
    formulaRefused("10: fault on a formula", rich, E, "(", -101);
    formulaRefused("10: fault ahead of state", rich, A, "y", -100);
    formulaRefused("10: fault ahead of ring", rich, E, "e e", -102);
    formulaRefused("10: varied as one", rich, A, "1", STATE);
    formulaRefused("10: varied as other", rich, D, "1", STATE);
    formulaRefused("10: state ahead of ring", rich, A, "f", STATE);
    formulaRefused("10: ring at once", rich, V, "v", RING);
    formulaRefused("10: ring on a formula at once", rich, E, "e", RING);
    formulaRefused("10: ring through another", rich, E, "f", RING);
    formulaRefused("10: ring through a table", rich, F, "sum 0", RING);
    formulaRefused("10: ring through a table and cells", rich, E, "fails 3", RING);
    formulaRefused("10: ring in what pick would leave", rich, E, "pick(1,2,f)", RING);
    Twins.Maker heavy = Sheets::heavy;
    formulaRefused("10: 2001", heavy, V, "u", FULL);
    formulaRefused("10: 2001 by a table", heavy, V, "sum 1", FULL);
    Twins.Maker heavier = () -> {
      WhatIfSheet x = Sheets.heavy();
      x.formula(V);
      Check.type(x, "a+1");
      return x;
    };
    formulaRefused("10: 2001 of another", heavier, E, "a+v", FULL);
    formulaRefused("10: ring ahead of full", heavy, E, "u", RING);
    formulaRefused("10: state ahead of full", heavy, C, "u", STATE);
    WhatIfSheet x = Sheets.heavy();
    Check.due("10: 2000", x.told(U, 4), 2000);
    x.formula(22);
    Check.due("10: 2000 anew", Check.tell(x, U, "t+sum 0+sum 0+w-w+9-9"), 1);
    Check.due("10: 2000 anew", x.told(U, 4), 1903 + 1 + 64 + 1);
    Check.due("10: 2000 anew", Check.tell(x, U, "t+sum 0+sum 0+sum 0"), 1);
    Check.due("10: 2000 anew", x.told(U, 4), 2000);
    Check.due("10: 1001 by one less", Check.tell(x, V, "m"), 1);
  }

  private static WhatIfSheet typed(String text) {
    WhatIfSheet x = new WhatIfSheet();
    Check.type(x, text);
    return x;
  }

  private static void tables() {
    for (int t : NO_TABLES) {
      bad("11: no table", x -> x.table(t, E, A, NONE));
      bad("12: no table", x -> x.axis(t, 0, 0, 8, 1));
      bad("13: no table", x -> x.axisBy(t, 0, 0, 0, 1));
      bad("14: no table", x -> x.drop(t));
      bad("15: no table", x -> x.at(t, 0, 0));
      bad("16: no table", x -> x.blame(t, 0, 0));
      bad("17: no table", x -> x.adds(t, 0));
      bad("18: no table", x -> x.asks(t, 0));
    }
    for (int c : NO_CELLS) {
      bad("11: no output", x -> x.table(0, c, A, NONE));
      bad("11: no one", x -> x.table(0, E, c, NONE));
      bad("11: no one, with an other", x -> x.table(0, E, c, B));
      if (c != NONE) bad("11: no other", x -> x.table(0, E, A, c));
      bad("11: no output ahead of a formula", x -> x.table(0, c, E, F));
      if (c != NONE) bad("11: no other ahead of a formula", x -> x.table(0, E, E, c));
    }
    bad("11: no other", x -> x.table(0, E, A, -2));
    bad("11: the same", x -> x.table(0, E, A, A));
    bad("11: the same, with a formula", x -> x.table(0, E, E, E));
    bad("11: the same, none", x -> x.table(0, E, NONE, NONE));
    refused("11: one has a formula", x -> x.table(0, E, F, A), STATE);
    refused("11: other has a formula", x -> x.table(0, E, A, F), STATE);
    refused("11: state ahead of ring", x -> x.table(0, G, F, A), STATE);
    refused("11: ring", x -> x.table(0, G, A, NONE), RING);
    refused("11: ring of one not laid", x -> x.table(1, J, A, NONE), RING);
    refused("11: ring through a table", x -> x.table(5, G, A, NONE), RING);
    Twins.Maker heavy = Sheets::heavy;
    Twins.refused("11: 2001 of who asks", heavy, x -> x.table(2, U, C, NONE), FULL);
    Twins.refused("11: state ahead of full", heavy, x -> x.table(2, U, E, NONE), STATE);
    WhatIfSheet x = Sheets.heavy();
    Check.due("11: 2000 of who asks", laid1999(x), 1);
    Check.due("11: 2000 of who asks", x.told(X, 4), 2000);
    x = Sheets.heavy();
    Check.due("11: 2000 of a table", x.table(3, U, C, D), 1);
    Check.due("11: 2000 of a table", x.asks(3, 4), 2000);
    Twins.refused("12: 4000 of a table", () -> laidOn(U), y -> y.axis(3, 0, 0, 0, 2), FULL);
    Twins.refused("12: 4000 of a table", () -> laidOn(U), y -> y.axis(3, 1, 0, 0, 2), FULL);
  }

  /** Lays table 2, which x names, by a cell that has a BURDEN of 1999. */
  private static long laid1999(WhatIfSheet x) {
    x.clear(U);
    // One cell less than u has, so one less at most.
    x.formula(22);
    Check.tell(x, 19, "s" + "+sum 0".repeat(7));
    Check.due("11: 1999", x.told(19, 4), 1774 + 1 + 7 * 32);
    return x.table(2, 19, C, NONE);
  }

  private static WhatIfSheet laidOn(int output) {
    WhatIfSheet x = Sheets.heavy();
    x.table(3, output, C, D);
    return x;
  }

  private static void axes() {
    for (int which : new int[] {-1, 2, LEAST, MOST}) {
      bad("12: which", x -> x.axis(0, which, 0, 8, 1));
      bad("13: which", x -> x.axisBy(0, which, 0, 0, 1));
      bad("12: which ahead of state", x -> x.axis(1, which, 0, 8, 1));
      bad("13: which ahead of state", x -> x.axisBy(1, which, 0, 0, 1));
    }
    for (int n : new int[] {0, 9, -1, LEAST, MOST}) {
      bad("12: n", x -> x.axis(0, 0, 0, 8, n));
      bad("13: n", x -> x.axisBy(0, 0, 0, 0, n));
      bad("12: n ahead of state", x -> x.axis(1, 0, 0, 8, n));
      bad("13: n ahead of state", x -> x.axisBy(1, 0, 0, 0, n));
    }
    for (int v : new int[] {-80001, 80001, LEAST, MOST}) bad("12: start", x -> x.axis(0, 1, v, 8, 1));
    for (int v : new int[] {-8001, 8001, LEAST, MOST}) bad("12: step", x -> x.axis(0, 1, 0, v, 1));
    for (int row : NO_ROWS) {
      bad("13: no row", x -> x.axisBy(0, 0, row, 0, 1));
      bad("13: no row ahead of state", x -> x.axisBy(1, 0, row, 0, 1));
    }
    refused("12: not laid", x -> x.axis(1, 0, 0, 8, 1), STATE);
    refused("12: no other", x -> x.axis(5, 1, 0, 8, 1), STATE);
    refused("13: not laid", x -> x.axisBy(1, 0, 0, 0, 1), STATE);
    refused("13: no other", x -> x.axisBy(5, 1, 0, 0, 1), STATE);
    refused("13: state ahead of missing", x -> x.axisBy(1, 0, 3, 0, 1), STATE);
    refused("13: missing", x -> x.axisBy(0, 0, 3, 0, 1), MISSING);
    refused("13: missing ahead of outside", x -> x.axisBy(0, 0, 3, -1, 1), MISSING);
    refused("13: ints", x -> x.axisBy(0, 0, 1, 0, 1), UNLIKE);
    refused("13: floats", x -> x.axisBy(0, 0, 2, 0, 1), UNLIKE);
    refused("13: unlike ahead of outside", x -> x.axisBy(0, 0, 2, 64, 1), UNLIKE);
    for (int from : new int[] {-1, 6, LEAST, MOST}) {
      refused("13: outside", x -> x.axisBy(0, 0, 0, from, 1), OUTSIDE);
    }
    refused("13: outside by one", x -> x.axisBy(0, 0, 0, 5, 2), OUTSIDE);
    refused("13: outside ahead of failed", x -> x.axisBy(0, 0, 0, 1, 6), OUTSIDE);
    refused("13: outside ahead of failed", x -> x.axisBy(0, 0, 0, -1, 3), OUTSIDE);
    refused("13: the first failed", x -> x.axisBy(0, 0, 0, 1, 2), STATE);
    refused("13: the last failed", x -> x.axisBy(0, 0, 0, 0, 2), STATE);
    WhatIfSheet x = Sheets.rich();
    Check.due("13: just beside them", x.axisBy(0, 0, 0, 0, 1), 2);
    Check.due("13: just beside them", x.axisBy(0, 1, 0, 4, 1), 1);
    Twins.Maker heavy = Sheets::heavy;
    Twins.refused("12: 3000", heavy, y -> y.axis(1, 0, 0, 8, 3), FULL);
    Twins.refused("12: 4000", heavy, y -> y.axis(1, 1, 0, 8, 2), FULL);
    Twins.refused("13: 3000", heavy, y -> y.axisBy(1, 0, 0, 0, 3), FULL);
    Twins.refused("13: 4000", heavy, y -> y.axisBy(1, 1, 0, 0, 2), FULL);
    Twins.refused("12: too much for another", heavy, y -> y.axis(0, 1, 0, 8, 5), FULL);
    x = Sheets.heavy();
    Check.due("12: 2000", x.axis(1, 0, 8, 8, 2), 2);
    Check.due("13: 2000", x.axisBy(1, 0, 0, 2, 2), 2);
    Check.due("13: 2000", x.asks(1, 4), 2000);
    Check.due("12: fewer, then more of the other", x.axis(1, 0, 8, 8, 1), 1);
    Check.due("12: fewer, then more of the other", x.axis(1, 1, 8, 8, 3), FULL);
    Check.due("13: fewer, then more of the other", x.axisBy(1, 1, 0, 1, 3), FULL);
    Check.due("13: fewer, then more of the other", x.axisBy(1, 1, 0, 1, 2), 2);
    Check.due("13: fewer, then more of the other", x.asks(1, 5) * 10 + x.asks(1, 6), 12);
  }

  private static void tablesAsked() {
    refused("14: not laid", x -> x.drop(1), STATE);
    refused("15: not laid", x -> x.at(1, 0, 0), STATE);
    refused("15: not laid ahead of no case", x -> x.at(1, 8, 8), STATE);
    refused("16: not laid", x -> x.blame(1, 0, 0), STATE);
    refused("16: not laid ahead of no case", x -> x.blame(1, -1, -1), STATE);
    for (int i : new int[] {-1, 3, LEAST, MOST}) {
      bad("15: no case of the one", x -> x.at(0, i, 0));
      bad("16: no case of the one", x -> x.blame(0, i, 0));
    }
    for (int j : new int[] {-1, 2, LEAST, MOST}) {
      bad("15: no case of the other", x -> x.at(0, 0, j));
      bad("16: no case of the other", x -> x.blame(0, 0, j));
    }
    for (int j : new int[] {-1, 1}) {
      bad("15: no other", x -> x.at(5, 0, j));
      bad("16: no other", x -> x.blame(5, 0, j));
    }
    for (int what : new int[] {-1, 5, LEAST, MOST}) {
      bad("17: what", x -> x.adds(0, what));
      bad("17: what ahead of state", x -> x.adds(1, what));
    }
    for (int what : new int[] {-1, 9, LEAST, MOST}) {
      bad("18: what", x -> x.asks(0, what));
      bad("18: what ahead of state", x -> x.asks(1, what));
    }
    for (int what = 0; what < 9; what++) {
      int some = what;
      refused("18: not laid", x -> x.asks(1, some), STATE);
      if (what < 5) refused("17: not laid", x -> x.adds(1, some), STATE);
    }
  }

  private static void wanted() {
    for (int c : NO_CELLS) {
      bad("19: no input", x -> x.seek(c, E, 0, 8, 0, 0));
      bad("19: no cell", x -> x.seek(A, c, 0, 8, 0, 0));
      bad("19: no cell ahead of a formula", x -> x.seek(E, c, 0, 8, 0, 0));
      bad("20: no cell", x -> x.swing(c, 8, 0));
      bad("21: no cell", x -> x.chance(c, 1, 1, 0, 0));
    }
    for (int v : new int[] {-80001, 80001, LEAST, MOST}) {
      if (v < 0) bad("19: low", x -> x.seek(A, E, v, 8, 0, 0));
      if (v > 0) bad("19: high", x -> x.seek(A, E, 0, v, 0, 0));
      bad("19: want", x -> x.seek(A, E, 0, 8, v, 0));
      bad("21: want", x -> x.chance(E, 1, 1, v, 0));
    }
    bad("19: low and high", x -> x.seek(A, E, 80001, 80002, 0, 0));
    bad("19: low and high", x -> x.seek(A, E, -80002, -80001, 0, 0));
    bad("19: low is high", x -> x.seek(A, E, 8, 8, 0, 0));
    bad("19: low above high", x -> x.seek(A, E, 9, 8, 0, 0));
    bad("19: low above high, of a formula", x -> x.seek(E, E, 9, 8, 0, 0));
    for (int part : new int[] {-1, 3, LEAST, MOST}) bad("19: part", x -> x.seek(A, E, 0, 8, 0, part));
    for (int part = 0; part < 3; part++) {
      int some = part;
      refused("19: a formula", x -> x.seek(E, F, 0, 8, 0, some), STATE);
    }
    for (int d : new int[] {0, -1, 80001, LEAST, MOST}) bad("20: d", x -> x.swing(E, d, 0));
    for (int m : new int[] {0, -1, 21, LEAST, MOST}) bad("21: m", x -> x.chance(E, 1, m, 0, 0));
    for (int part : new int[] {-1, 2, LEAST, MOST}) {
      bad("20: part", x -> x.swing(E, 8, part));
      bad("21: part", x -> x.chance(E, 1, 1, 0, part));
    }
  }

  private static void told() {
    for (int t : NO_TABLES) {
      bad("22: no table", x -> x.film(t, 0));
      bad("23: no table", x -> x.tells(t, 0, A, 0));
    }
    for (int row : NO_ROWS) {
      bad("22: no row", x -> x.film(0, row));
      bad("22: no row ahead of state", x -> x.film(1, row));
      bad("23: no row", x -> x.tells(0, row, A, 0));
      bad("23: no row ahead of state", x -> x.tells(1, row, A, 0));
    }
    for (int c : NO_CELLS) {
      for (int what = 0; what < 4; what++) {
        int some = what;
        bad("23: no cell", x -> x.tells(0, 0, c, some));
      }
      bad("23: no cell ahead of state", x -> x.tells(1, 0, c, 0));
    }
    for (int what : new int[] {-1, 4, LEAST, MOST}) {
      bad("23: what", x -> x.tells(0, 0, A, what));
      bad("23: what ahead of state", x -> x.tells(1, 0, A, what));
      bad("26: what", x -> x.count(what));
    }
    for (int row = 0; row < 4; row++) {
      int some = row;
      refused("22: not laid", x -> x.film(1, some), STATE);
      refused("23: not laid", x -> x.tells(1, some, A, 0), STATE);
    }
    refused("23: a formula, how many", x -> x.tells(0, 0, E, 2), STATE);
    refused("23: a formula, the least", x -> x.tells(0, 0, E, 3), STATE);
    refused("23: a formula ahead of missing", x -> x.tells(0, 3, E, 2), STATE);
    for (int what = 0; what < 4; what++) {
      int some = what;
      refused("23: missing", x -> x.tells(0, 3, A, some), MISSING);
      refused("23: ints", x -> x.tells(0, 1, A, some), UNLIKE);
      refused("23: floats ahead of their size", x -> x.tells(0, 2, A, some), UNLIKE);
      refused("23: a size of others", x -> x.tells(5, 0, A, some), BAD);
    }
    Twins.refused("25: no image", () -> typed("a"), x -> x.back(), STATE);
  }

  private static void rows() {
    for (int row : NO_ROWS) {
      bad("27: no row", x -> x.row(row, 3, 1));
      bad("27: no row ahead of below", x -> x.row(row, 3, -1));
      bad("27: no row to be missing", x -> x.row(row, -1, 1));
      bad("28: no row", x -> x.put(row, 0, 1));
      bad("29: no row", x -> x.item(row, 0));
      bad("30: no row", x -> x.copy(row, 0, 0, 0, 1));
      bad("30: no other", x -> x.copy(0, 0, row, 0, 1));
      bad("30: no other ahead of missing", x -> x.copy(3, 0, row, 0, 1));
    }
    for (int sort : new int[] {-2, 4, LEAST, MOST}) {
      bad("27: no sort", x -> x.row(0, sort, 1));
      bad("27: no sort ahead of below", x -> x.row(0, sort, -1));
    }
    for (int sort = 0; sort < 4; sort++) {
      int some = sort;
      bad("27: 65", x -> x.row(0, some, 65));
      bad("27: most", x -> x.row(0, some, MOST));
      refused("27: below 0", x -> x.row(0, some, -1), BELOW);
      refused("27: least", x -> x.row(0, some, LEAST), BELOW);
      refused("27: below 0 of a missing one", x -> x.row(3, some, -1), BELOW);
    }
    for (int i : new int[] {-1, 6, 64, LEAST, MOST}) {
      refused("28: outside", x -> x.put(0, i, 8), OUTSIDE);
      refused("29: outside", x -> x.item(0, i), OUTSIDE);
      refused("28: missing ahead of outside", x -> x.put(3, i, 8), MISSING);
      refused("29: missing ahead of outside", x -> x.item(3, i), MISSING);
      refused("30: from outside", x -> x.copy(0, i, 0, 0, 1), OUTSIDE);
      refused("30: to outside", x -> x.copy(0, 0, 0, i, 1), OUTSIDE);
    }
    refused("28: missing", x -> x.put(3, 0, 8), MISSING);
    refused("29: missing", x -> x.item(3, 0), MISSING);
    refused("30: from a missing one", x -> x.copy(3, 0, 0, 0, 1), MISSING);
    refused("30: to a missing one", x -> x.copy(0, 0, 3, 0, 1), MISSING);
    refused("30: missing, none of it", x -> x.copy(3, 0, 3, 0, 0), MISSING);
    refused("30: missing ahead of outside", x -> x.copy(3, 0, 1, 0, -1), MISSING);
    refused("30: unlike", x -> x.copy(0, 0, 1, 0, 1), UNLIKE);
    refused("30: unlike", x -> x.copy(2, 0, 0, 0, 1), UNLIKE);
    refused("30: unlike, none of it", x -> x.copy(1, 0, 2, 0, 0), UNLIKE);
    refused("30: unlike ahead of outside", x -> x.copy(1, 0, 2, 0, -1), UNLIKE);
    for (int n : new int[] {-1, 7, LEAST, MOST}) refused("30: n", x -> x.copy(0, 0, 0, 0, n), OUTSIDE);
    refused("30: none from outside", x -> x.copy(0, 7, 0, 0, 0), OUTSIDE);
    refused("30: none to outside", x -> x.copy(0, 0, 0, 7, 0), OUTSIDE);
    refused("30: none from ahead", x -> x.copy(0, -1, 0, 0, 0), OUTSIDE);
    refused("30: too many from there on", x -> x.copy(0, 2, 0, 0, 5), OUTSIDE);
    refused("30: too many to there", x -> x.copy(0, 0, 0, 2, 5), OUTSIDE);
    Twins.asked("30: none at the end", Sheets::rich, x -> x.copy(0, 6, 0, 6, 0), 0);
  }

  private static void asked(String name, Twins.Call call) {
    Twins.changesNothing(name, Sheets::rich, call);
  }

  /** Behind each question the sheet is as it was, whatever comes of it. */
  private static void questions() {
    for (int what = 0; what < 8; what++) {
      int some = what;
      asked("5: told " + what, x -> x.told(G, some));
      asked("5: told of an error " + what, x -> x.told(M, some));
    }
    for (int c = 0; c < 24; c++) {
      int cell = c;
      asked("6: value", x -> x.value(cell));
      asked("7: would", x -> x.would(A, -80, cell));
      asked("7: would of an empty one", x -> x.would(C, -80, cell));
      asked("7: would of one that tables vary", x -> x.would(D, 0, cell));
      asked("8: taken", x -> x.taken(cell, 0));
      asked("20: swing", x -> x.swing(cell, 80, 1));
      asked("21: chance", x -> x.chance(cell, 5, 20, 0, 0));
      asked("19: seek", x -> x.seek(A, cell, -80, 80, 0, 0));
      asked("19: seek by an empty one", x -> x.seek(C, cell, -80, 80, 0, 2));
      asked("19: seek by one under a kind", x -> x.seek(D, cell, -8000, 80, 0, 1));
      for (int w = 0; w < 4; w++) {
        int what = w;
        asked("23: tells", x -> x.tells(0, 0, cell, what));
      }
    }
    for (int t : new int[] {0, 3, 5}) {
      for (int what = 0; what < 9; what++) {
        int some = what;
        asked("18: asks", x -> x.asks(t, some));
        asked("17: adds", x -> x.adds(t, some));
      }
      for (int i = 0; i < 4; i++) {
        int place = i;
        asked("15: at", x -> x.at(t, place, 0));
        asked("16: blame", x -> x.blame(t, place, 1));
      }
    }
    for (int w = 0; w < 4; w++) {
      int what = w;
      asked("26: count", x -> x.count(what));
      asked("29: item", x -> x.item(0, what));
    }
  }

  /** What a call changes beside what the document names: nothing. */
  private static void nothingElse() {
    Twins.Maker rich = Sheets::rich;
    Twins.Call film = x -> x.film(5, 3);
    Twins.butRow("22: film", rich, film, 3);
    Twins.cellsStay("22: film", rich, film);
    Twins.tablesStay("22: film", rich, film);
    Twins.tapeStays("22: film", rich, film);
    Twins.imageStays("22: film", rich, film);
    Twins.Call image = x -> x.image();
    Twins.butRow("24: image", rich, image, -1);
    Twins.cellsStay("24: image", rich, image);
    Twins.tablesStay("24: image", rich, image);
    Twins.tapeStays("24: image", rich, image);
    Twins.Call back = x -> x.back();
    Twins.butRow("25: back", rich, back, -1);
    Twins.imageStays("25: back", rich, back);
    Twins.Call feed = x -> x.feed(5, 43, 43, 43, 43, 43);
    Twins.butRow("9: feed", rich, feed, -1);
    Twins.cellsStay("9: feed", rich, feed);
    Twins.tablesStay("9: feed", rich, feed);
    Twins.imageStays("9: feed", rich, feed);
    Twins.Call[] ofCells = {x -> x.set(A, 80), x -> x.clear(E), x -> x.kind(B, 3), x -> x.formula(V)};
    for (Twins.Call call : ofCells) {
      Twins.butRow("2, 3, 4, 10: cells", rich, call, -1);
      Twins.imageStays("2, 3, 4, 10: cells", rich, call);
    }
    Twins.Call[] ofTables = {x -> x.table(0, E, B, A), x -> x.axis(0, 0, 8, 8, 8), x -> x.axisBy(0, 1, 0, 0, 1),
        x -> x.drop(5)};
    for (Twins.Call call : ofTables) {
      Twins.butRow("11 to 14: tables", rich, call, -1);
      Twins.imageStays("11 to 14: tables", rich, call);
      Twins.tapeStays("11 to 14: tables", rich, call);
    }
    Twins.Call[] ofRows = {x -> x.row(0, -1, 0), x -> x.row(0, 2, 9), x -> x.put(0, 5, 8), x -> x.copy(0, 0, 0, 1, 3)};
    for (Twins.Call call : ofRows) {
      Twins.butRow("27, 28, 30: rows", rich, call, 0);
      Twins.cellsStay("27, 28, 30: rows", rich, call);
      Twins.tablesStay("27, 28, 30: rows", rich, call);
      Twins.tapeStays("27, 28, 30: rows", rich, call);
      Twins.imageStays("27, 28, 30: rows", rich, call);
    }
  }

  public static void main(String[] args) {
    cells();
    feed();
    formula();
    tables();
    axes();
    tablesAsked();
    wanted();
    told();
    rows();
    questions();
    nothingElse();
    Check.end();
  }
}
