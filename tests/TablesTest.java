/** Promises 11 to 18: table, axis, axisBy, drop, at, blame, adds, asks. */
public final class TablesTest {
  /** e = a / b, f = e + c, g = 5; a = 1, b = 2, c = 3, d empty. */
  private static WhatIfSheet sheet() {
    WhatIfSheet x = new WhatIfSheet();
    x.set(0, 8);
    x.set(1, 16);
    x.set(2, 24);
    Check.tell(x, 4, "a/b");
    Check.tell(x, 5, "e+c");
    Check.tell(x, 6, "5");
    return x;
  }

  private static void table() {
    WhatIfSheet x = sheet();
    Check.due("11: laid", x.table(0, 5, 0, -1), 1);
    Check.due("11: one number", x.asks(0, 5), 1);
    Check.due("11: no other", x.asks(0, 6), 0);
    Check.dueNumber("11: it is 0", x.at(0, 0, 0), 3);
    Check.due("11: laid with an other", x.table(5, 5, 1, 0), 1);
    Check.due("11: one number each", x.asks(5, 5) * 10 + x.asks(5, 6), 11);
    Check.due("11: by 0", x.at(5, 0, 0), -22);
    Check.due("11: laid", x.count(2), 2);
    x.axis(0, 0, 8, 8, 5);
    Check.due("11: anew", x.table(0, 4, 0, 1), 1);
    Check.due("11: anew, by one number", x.asks(0, 5), 1);
    Check.due("11: still as many", x.count(2), 2);
    x.axis(0, 1, 8, 8, 2);
    x.axis(0, 1, 8, 8, 3);
    Check.dueNumber("11: 0 by 1", x.at(0, 0, 0), 0);
    x.table(0, 4, 0, 1);
    Check.due("11: anew, 0 by 0", x.at(0, 0, 0), -22);
    Check.due("11: output is its one", x.table(1, 0, 0, -1), 1);
    Check.due("11: output is its one", x.at(1, 0, 0), 0);
    Check.due("11: no table", x.table(6, 4, 0, 1), -2);
    Check.due("11: no table", x.table(-1, 4, 0, 1), -2);
    Check.due("11: no output", x.table(0, 24, 0, 1), -2);
    Check.due("11: no output", x.table(0, -1, 0, 1), -2);
    Check.due("11: no one", x.table(0, 4, 24, 1), -2);
    Check.due("11: no one", x.table(0, 4, -1, 1), -2);
    Check.due("11: no one and no other", x.table(0, 4, -1, -1), -2);
    Check.due("11: no other", x.table(0, 4, 0, 24), -2);
    Check.due("11: no other", x.table(0, 4, 0, -2), -2);
    Check.due("11: the same", x.table(0, 4, 1, 1), -2);
    Check.due("11: the same, with a formula", x.table(0, 4, 4, 4), -2);
    Check.due("11: one has a formula", x.table(0, 4, 5, 1), -3);
    Check.due("11: other has a formula", x.table(0, 4, 1, 5), -3);
    Check.due("11: changes nothing", x.asks(0, 2), 16);
    Check.tell(x, 7, "sum 2+sum 0");
    Check.tell(x, 8, "h");
    Check.due("11: ring", x.table(2, 8, 0, 1), -5);
    Check.due("11: state ahead of ring", x.table(2, 8, 4, 1), -3);
    Check.due("11: not laid", x.drop(2), -3);
    Check.due("11: ring of a laid one", x.table(0, 7, 0, -1), -5);
    Check.due("11: as it was", x.asks(0, 6), 1);
    Check.due("11: through a table", x.table(3, 7, 0, -1), 1);
    Check.tell(x, 9, "sum 3");
    Check.due("11: ring through a table", x.table(2, 9, 0, -1), -5);
    Check.due("11: no ring without it", x.drop(3), 1);
    Check.due("11: no ring without it", x.table(2, 9, 0, -1), 1);
    Check.due("11: a ring the other way", x.table(3, 7, 0, -1), -5);
  }

  private static void tooHeavy() {
    WhatIfSheet x = sheet();
    x.table(0, 4, 0, 1);
    x.axis(0, 0, 0, 8, 8);
    Check.due("11, 12: 64 cases", x.axis(0, 1, 0, 8, 8), 64);
    Check.tell(x, 7, "sum 0*sum 0*sum 0+sum 0*sum 0*sum 0+sum 0");
    Check.due("11: burden", x.told(7, 4), 449);
    x.table(1, 7, 2, 3);
    Check.due("12: 4 times", x.axis(1, 0, 0, 8, 4), 4);
    Check.due("12: burden", x.asks(1, 4), 1796);
    Check.due("12: 5 times", x.axis(1, 0, 0, 8, 5), -4);
    Check.due("12: 8 times", x.axis(1, 1, 0, 8, 2), -4);
    Check.due("12: as it was", x.asks(1, 5) * 10 + x.asks(1, 6), 41);
    Check.due("12: still 4 times", x.axis(1, 0, 80, 8, 4), 4);
    x.row(0, 3, 8);
    Check.due("13: 5 times", x.axisBy(1, 0, 0, 0, 5), -4);
    Check.due("13: 4 times", x.axisBy(1, 0, 0, 2, 4), 4);
    Check.due("13: fewer", x.axisBy(1, 0, 0, 2, 1), 1);
    Check.due("12: now 4 of the other", x.axis(1, 1, 0, 8, 4), 4);
    Check.tell(x, 8, "sum 1");
    Check.due("11: another burden", x.told(8, 4), 1797);
    Check.tell(x, 9, "i+sum 2+sum 2+sum 2+sum 2+sum 2+sum 2+sum 2+sum 2+sum 2+sum 2+sum 2+sum 2+sum 2");
    Check.tell(x, 10, "j+sum 2+sum 2+sum 2+sum 2");
    Check.due("11: not laid yet", x.told(10, 4), 1799);
    Check.due("11: 17 times", x.table(2, 4, 0, 1), 1);
    Check.due("12: 17 times 11", x.axis(2, 0, 0, 8, 8), 8);
    Check.due("12: its burden", x.told(10, 4), 1799 + 17 * 8);
    Check.due("12: 17 times 12", x.axis(2, 1, 0, 8, 2), -4);
    Check.due("11: anew it is less", x.table(2, 6, 0, 1), 1);
    Check.due("11: anew it is less", x.told(10, 4), 1799 + 17);
    Check.due("11: of 449", x.table(2, 7, 0, 1), -4);
    Check.due("11: as it was", x.told(10, 4), 1799 + 17);
  }

  private static void axis() {
    WhatIfSheet x = sheet();
    x.table(0, 5, 0, 1);
    Check.due("12: one", x.axis(0, 0, -8, 4, 3), 3);
    Check.due("12: other", x.axis(0, 1, 8, 0, 2), 6);
    Check.dueNumber("12: first", x.at(0, 0, 0), 2);
    Check.dueNumber("12: second", x.at(0, 1, 0), 2.5);
    Check.dueNumber("12: third", x.at(0, 2, 1), 3);
    Check.due("12: eight", x.axis(0, 0, 80000, -8000, 8), 16);
    Check.dueNumber("12: last", x.at(0, 7, 0), 3000 + 3);
    Check.due("12: least", x.axis(0, 0, -80000, 8000, 1), 2);
    Check.dueNumber("12: least", x.at(0, 0, 0), -10000 + 3);
    Check.due("12: none", x.axis(0, 0, 0, 0, 0), -2);
    Check.due("12: nine", x.axis(0, 0, 0, 0, 9), -2);
    Check.due("12: start", x.axis(0, 0, 80001, 0, 1), -2);
    Check.due("12: start", x.axis(0, 0, -80001, 0, 1), -2);
    Check.due("12: step", x.axis(0, 0, 0, 8001, 1), -2);
    Check.due("12: step", x.axis(0, 0, 0, -8001, 1), -2);
    Check.due("12: which", x.axis(0, 2, 0, 0, 1), -2);
    Check.due("12: which", x.axis(0, -1, 0, 0, 1), -2);
    Check.due("12: no table", x.axis(6, 0, 0, 0, 1), -2);
    Check.due("12: no table", x.axis(-1, 0, 0, 0, 1), -2);
    Check.due("12: not laid", x.axis(1, 0, 0, 0, 1), -3);
    Check.due("12: bad ahead of state", x.axis(1, 0, 0, 0, 9), -2);
    x.table(1, 5, 0, -1);
    Check.due("12: no other", x.axis(1, 1, 0, 0, 1), -3);
    Check.due("12: its one", x.axis(1, 0, 0, 0, 2), 2);
    Check.due("12: as it was", x.asks(0, 5) * 10 + x.asks(0, 6), 12);
    x.kind(0, 1);
    x.axis(0, 0, 12, 4, 3);
    Check.dueNumber("12: kept", x.at(0, 0, 0), 4);
    Check.dueNumber("12: kept", x.at(0, 2, 0), 5);
    x.kind(0, 0);
    Check.dueNumber("12: kept when asked", x.at(0, 0, 0), 4.5);
  }

  private static void axisBy() {
    WhatIfSheet x = sheet();
    x.table(0, 5, 0, 1);
    x.axis(0, 1, 8, 8, 2);
    x.row(1, 3, 5);
    for (int i = 0; i < 5; i++) x.put(1, i, 8 * i * i);
    Check.due("13: three", x.axisBy(0, 0, 1, 2, 3), 6);
    Check.dueNumber("13: from two on", x.at(0, 0, 0), 7);
    Check.dueNumber("13: the last", x.at(0, 2, 1), 11);
    x.put(1, 2, 0);
    Check.dueNumber("13: as they were then", x.at(0, 0, 0), 7);
    Check.due("13: the other", x.axisBy(0, 1, 1, 1, 1), 3);
    Check.dueNumber("13: by 1", x.at(0, 1, 0), 12);
    Check.due("13: all", x.axisBy(0, 1, 1, 0, 5), 15);
    Check.due("13: beyond", x.axisBy(0, 1, 1, 1, 5), -12);
    Check.due("13: beyond", x.axisBy(0, 1, 1, 5, 1), -12);
    Check.due("13: ahead", x.axisBy(0, 1, 1, -1, 1), -12);
    Check.due("13: far beyond", x.axisBy(0, 1, 1, Integer.MAX_VALUE, 8), -12);
    Check.due("13: far ahead", x.axisBy(0, 1, 1, Integer.MIN_VALUE, 8), -12);
    Check.due("13: none", x.axisBy(0, 1, 1, 0, 0), -2);
    Check.due("13: nine", x.axisBy(0, 1, 1, 0, 9), -2);
    Check.due("13: no table", x.axisBy(6, 1, 1, 0, 1), -2);
    Check.due("13: no table", x.axisBy(-1, 1, 1, 0, 1), -2);
    Check.due("13: which", x.axisBy(0, 2, 1, 0, 1), -2);
    Check.due("13: which", x.axisBy(0, -1, 1, 0, 1), -2);
    Check.due("13: no such row", x.axisBy(0, 1, 4, 0, 1), -2);
    Check.due("13: no such row", x.axisBy(0, 1, -1, 0, 1), -2);
    Check.due("13: missing", x.axisBy(0, 1, 0, 0, 1), -11);
    for (int sort = 0; sort < 3; sort++) {
      x.row(2, sort, 2);
      Check.due("13: sort " + sort, x.axisBy(0, 1, 2, 9, 1), -13);
    }
    Check.due("13: not laid", x.axisBy(1, 0, 0, 0, 1), -3);
    x.table(1, 5, 0, -1);
    Check.due("13: no other, ahead of the row", x.axisBy(1, 1, 0, 0, 1), -3);
    x.set(1, 0);
    x.axis(0, 1, 0, 8, 1);
    x.table(2, 4, 1, -1);
    x.axis(2, 0, 8, -8, 3);
    x.film(2, 3);
    Check.due("13: before the failed one", x.axisBy(1, 0, 3, 0, 1), 1);
    Check.due("13: the failed one", x.axisBy(1, 0, 3, 0, 2), -3);
    Check.due("13: behind it", x.axisBy(1, 0, 3, 2, 1), 1);
    Check.due("13: outside ahead of failed", x.axisBy(1, 0, 3, 1, 3), -12);
    Check.due("13: by what was there", x.asks(1, 5), 1);
  }

  private static void farNumbers() {
    WhatIfSheet x = new WhatIfSheet();
    Check.tell(x, 4, "a*a*a");
    x.table(0, 4, 0, -1);
    x.axis(0, 0, 72000, 8000, 2);
    Check.due("17: two far ones", x.film(0, 0), 2);
    Check.tell(x, 5, "b");
    x.table(1, 5, 1, -1);
    Check.due("13: beyond what set takes", x.axisBy(1, 0, 0, 0, 2), 2);
    Check.dueNumber("13: beyond what set takes", x.at(1, 0, 0), 9000.0 * 9000 * 9000);
    Check.dueNumber("13: the farthest", x.at(1, 1, 0), 1e12);
    Check.due("17: sum is too far", x.adds(1, 0), -23);
    Check.due("17: mean is too far", x.adds(1, 1), -23);
    Check.dueNumber("17: least", x.adds(1, 2), 729e9);
    Check.dueNumber("17: most", x.adds(1, 3), 1e12);
    Check.due("17: fails", x.adds(1, 4), 0);
    Check.tell(x, 6, "sum 1");
    Check.due("17: too far in a formula", x.value(6), -23);
    Check.due("17: who asked", x.told(6, 6), 6);
    Check.tell(x, 7, "mean 1+most 1");
    Check.due("17: mean in a formula", x.told(7, 5) * 100 + x.told(7, 6), 307);
    Check.tell(x, 8, "most 1-least 1");
    Check.dueNumber("17: most and least in a formula", x.value(8), 1e12 - 729e9);
    x.axis(0, 0, -80000, 8000, 1);
    x.film(0, 2);
    x.row(3, 3, 3);
    x.copy(0, 1, 3, 0, 1);
    x.copy(0, 0, 3, 1, 1);
    x.copy(2, 0, 3, 2, 1);
    x.axisBy(1, 0, 3, 0, 3);
    Check.due("17: too far on the way", x.adds(1, 0), -23);
    x.copy(3, 1, 3, 0, 2);
    x.axisBy(1, 0, 3, 0, 2);
    Check.dueNumber("17: not too far", x.adds(1, 0), 729e9 - 1e12);
    x.axisBy(1, 0, 2, 0, 1);
    Check.dueNumber("17: the least far", x.adds(1, 0), -1e12);
    x.row(3, 3, 2);
    x.copy(2, 0, 3, 0, 1);
    x.put(3, 1, -1);
    x.axisBy(1, 0, 3, 0, 2);
    Check.due("17: below the least far", x.adds(1, 0), -23);
    x.copy(0, 1, 3, 0, 1);
    x.put(3, 1, 0);
    x.axisBy(1, 0, 3, 0, 2);
    Check.dueNumber("17: just as far", x.adds(1, 0), 1e12);
  }

  private static void drop() {
    WhatIfSheet x = sheet();
    x.table(3, 5, 0, -1);
    Check.tell(x, 7, "sum 3");
    Check.due("14: reads", x.told(7, 2), 6);
    Check.due("14: drop", x.drop(3), 1);
    Check.due("14: not laid", x.drop(3), -3);
    Check.due("14: no case", x.value(7), -24);
    Check.due("14: reads none", x.told(7, 2), 0);
    Check.due("14: burden", x.told(7, 4), 1);
    Check.due("14: count", x.count(2), 0);
    Check.due("14: no table", x.drop(6), -2);
    Check.due("14: no table", x.drop(-1), -2);
    Check.due("14: at", x.at(3, 0, 0), -3);
    Check.due("14: adds", x.adds(3, 0), -3);
    Check.due("14: asks", x.asks(3, 0), -3);
  }

  private static void atAndBlame() {
    WhatIfSheet x = sheet();
    x.table(0, 5, 0, 1);
    x.axis(0, 0, 8, 8, 3);
    x.axis(0, 1, -8, 8, 3);
    for (int i = 0; i < 3; i++) {
      Check.dueNumber("15: by -1", x.at(0, i, 0), 3 - (i + 1.0));
      Check.due("15: by 0", x.at(0, i, 1), -22);
      Check.dueNumber("15: by 1", x.at(0, i, 2), 3 + (i + 1.0));
      Check.due("16: by -1", x.blame(0, i, 0), -1);
      Check.due("16: by 0", x.blame(0, i, 1), 4);
      Check.due("16: by 1", x.blame(0, i, 2), -1);
    }
    int[][] outside = {{3, 0}, {0, 3}, {-1, 0}, {0, -1}, {Integer.MAX_VALUE, 0}, {0, Integer.MIN_VALUE}};
    for (int[] p : outside) {
      Check.due("15: no case", x.at(0, p[0], p[1]), -2);
      Check.due("16: no case", x.blame(0, p[0], p[1]), -2);
    }
    Check.due("15: no table", x.at(6, 0, 0), -2);
    Check.due("15: no table", x.at(-1, 0, 0), -2);
    Check.due("16: no table", x.blame(6, 0, 0), -2);
    Check.due("16: no table", x.blame(-1, 0, 0), -2);
    Check.due("15: not laid", x.at(1, 0, 0), -3);
    Check.due("15: not laid ahead of no case", x.at(1, -1, 0), -3);
    Check.due("16: not laid", x.blame(1, 9, 0), -3);
    x.table(1, 5, 0, -1);
    Check.due("15: no other", x.at(1, 0, 1), -2);
    Check.dueNumber("15: no other", x.at(1, 0, 0), 3);
    x.clear(2);
    Check.due("15: empty", x.at(1, 0, 0), -21);
    Check.due("16: the empty one", x.blame(1, 0, 0), 2);
    x.table(2, 3, 2, -1);
    Check.due("15: an empty output", x.at(2, 0, 0), -21);
    x.table(2, 5, 2, -1);
    Check.dueNumber("15: what is varied isn't empty", x.at(2, 0, 0), 0.5);
    Check.dueNumber("15: as it was", x.value(4), 0.5);
    Check.due("15: as it was", x.told(2, 7), 1);
  }

  private static void tablesWithinTables() {
    WhatIfSheet x = new WhatIfSheet();
    x.set(0, 8);
    x.set(1, 16);
    x.set(2, 24);
    Check.tell(x, 4, "a*100+b*10+c");
    x.table(0, 4, 0, -1);
    x.axis(0, 0, 8, 8, 2);
    Check.tell(x, 5, "sum 0+a*1000");
    x.table(1, 5, 1, 0);
    x.axis(1, 0, 32, 8, 2);
    x.axis(1, 1, 40, 8, 2);
    Check.dueNumber("15: inner varies a itself, b is the outer's", x.at(1, 0, 0), 143 + 243 + 5000);
    Check.dueNumber("15: inner varies a itself, b is the outer's", x.at(1, 1, 1), 153 + 253 + 6000);
    Check.tell(x, 6, "most 1-least 1");
    Check.dueNumber("17: nested", x.value(6), 1020);
    x.table(2, 6, 2, -1);
    x.axis(2, 0, 0, 8, 3);
    Check.dueNumber("17: nested twice", x.adds(2, 0), 3060);
    Check.due("18: burden", x.asks(2, 4), (1 + 2 * (4 * (1 + 2))) * 3);
    Check.due("18: slice", x.asks(2, 2), 64);
    Check.due("18: told least", x.asks(2, 3), (1 + 2 * ((1 + 2) * 4)) * 3);
    x.kind(0, 1);
    x.axis(0, 0, 8, 2, 2);
    Check.due("18: told least with like values", x.asks(2, 3), (1 + 2 * ((1 + 1) * 4)) * 3);
    x.axis(1, 1, 40, 2, 2);
    Check.due("18: told least with like values", x.asks(2, 3), (1 + 2 * ((1 + 1) * 2)) * 3);
    Check.due("18: burden is by cases", x.asks(2, 4), (1 + 2 * (4 * (1 + 2))) * 3);
  }

  /** READS, SLICE, TOLD LEAST by what a table varies itself: its ONE, its OTHER, both, none. */
  private static void namesAtBounds() {
    WhatIfSheet x = new WhatIfSheet();
    x.set(0, 8);
    x.set(1, 16);
    x.set(2, 24);
    Check.tell(x, 4, "a+b*c");
    Check.tell(x, 5, "a");
    Check.tell(x, 6, "b");
    Check.tell(x, 7, "c");
    Check.tell(x, 8, "e+f+g+h");
    Check.tell(x, 9, "mean 0+fails 0");
    Check.due("5: none is laid", x.told(9, 2), 0);
    Check.due("5: none is laid", x.told(9, 4), 1);
    x.table(0, 8, 0, -1);
    Check.due("5: but for its one", x.told(9, 2), 2 | 4);
    x.table(0, 8, 1, -1);
    Check.due("5: but for its one", x.told(9, 2), 1 | 4);
    x.table(0, 8, 0, 1);
    Check.due("5: but for both", x.told(9, 2), 4);
    x.table(0, 8, 2, 0);
    Check.due("5: but for both", x.told(9, 2), 2);
    x.axis(0, 0, 0, 8, 2);
    x.axis(0, 1, 0, 8, 3);
    Check.due("18: slice by both", x.asks(0, 2), 16 | 32 | 128 | 256);
    // e and i by both, f by the other, g by none, h by the one.
    Check.due("18: told least", x.asks(0, 3), 6 + 6 + 3 + 1 + 2);
    Check.due("18: burden", x.asks(0, 4), 5 * 6);
    Check.due("5: burden", x.told(9, 4), 1 + 2 * 5 * 6);
    x.table(1, 9, 1, 0);
    x.axis(1, 0, 0, 8, 4);
    x.axis(1, 1, 0, 8, 2);
    Check.due("18: slice through a table", x.asks(1, 2), 512);
    Check.due("18: told least through a table", x.asks(1, 3), (1 + 2 * 18) * 4);
    Check.due("18: burden through a table", x.asks(1, 4), 61 * 8);
    x.table(1, 9, 0, 3);
    x.axis(1, 0, 0, 8, 4);
    Check.due("18: what the inner one varies isn't read", x.asks(1, 2), 0);
    Check.due("18: what the inner one varies isn't read", x.asks(1, 3), 1 + 2 * 18);
    Check.dueNumber("15: nor does it move", x.at(1, 0, 0), Double.longBitsToDouble(x.at(1, 3, 0)));
    x.clear(0);
    x.clear(2);
    Check.due("15: nor need it be there", x.at(1, 0, 0) == x.value(9) ? 1 : 0, 1);
    Check.due("15: nor need it be there", x.told(9, 5), 0);
    x.clear(1);
    Check.due("17: all fail within", x.value(9), -24);
  }

  private static void deepTables() {
    WhatIfSheet x = new WhatIfSheet();
    x.set(0, 8);
    Check.tell(x, 1, "a+1");
    double due = 2;
    for (int t = 0; t < 6; t++) {
      x.table(t, t + 1, 0, -1);
      x.axis(t, 0, 8 + 8 * t, 8, 2);
      Check.tell(x, t + 2, "sum " + t + "+a");
    }
    // sum 0 is 2 + 3; what lies above asks with another a that the table below it hides.
    due = 5;
    for (int t = 1; t < 6; t++) due = due + t + 1 + due + t + 2;
    Check.dueNumber("17: six deep", x.value(7), due + 1);
    Check.due("17: six deep", x.told(7, 4), 127);
    Check.due("18: told least six deep", x.asks(5, 3), 126 / 2 - 1 + 64);
  }

  private static void adds() {
    WhatIfSheet x = sheet();
    x.table(0, 4, 0, 1);
    x.axis(0, 0, 8, 8, 3);
    x.axis(0, 1, 0, 24, 2);
    Check.dueNumber("17: sum", x.adds(0, 0), 1.0 / 3 + 2.0 / 3 + 1);
    Check.dueNumber("17: mean", x.adds(0, 1), (1.0 / 3 + 2.0 / 3 + 1) / 3);
    Check.dueNumber("17: least", x.adds(0, 2), 1.0 / 3);
    Check.dueNumber("17: most", x.adds(0, 3), 1);
    Check.due("17: fails", x.adds(0, 4), 3);
    Check.tell(x, 7, "sum 0*1");
    Check.dueNumber("17: in a formula", x.value(7), 1.0 / 3 + 2.0 / 3 + 1);
    Check.tell(x, 7, "fails 0");
    Check.dueNumber("17: fails in a formula", x.value(7), 3);
    x.axis(0, 0, 16, 8, 1);
    for (int what = 0; what < 4; what++) Check.dueNumber("17: of one alone " + what, x.adds(0, what), 2.0 / 3);
    Check.due("17: the other fails", x.adds(0, 4), 1);
    x.axis(0, 0, 8, 8, 3);
    x.axis(0, 1, 0, 0, 2);
    Check.due("17: sum of none", x.adds(0, 0), 0);
    Check.due("17: mean of none", x.adds(0, 1), -24);
    Check.due("17: least of none", x.adds(0, 2), -24);
    Check.due("17: most of none", x.adds(0, 3), -24);
    Check.due("17: all fail", x.adds(0, 4), 6);
    Check.tell(x, 7, "sum 0");
    Check.due("17: sum of none in a formula", x.value(7), 0);
    Check.tell(x, 7, "least 0");
    Check.due("17: least of none in a formula", x.value(7), -24);
    Check.due("17: blame of no case", x.told(7, 6), 7);
    Check.due("17: no table", x.adds(6, 0), -2);
    Check.due("17: no table", x.adds(-1, 0), -2);
    Check.due("17: what", x.adds(0, 5), -2);
    Check.due("17: what", x.adds(0, -1), -2);
    Check.due("17: what of none laid", x.adds(1, 5), -2);
    Check.due("17: not laid", x.adds(1, 0), -3);
    x.table(2, 3, 3, -1);
    x.axis(2, 0, -8, -8, 3);
    Check.dueNumber("17: below 0", x.adds(2, 0), -6);
    Check.dueNumber("17: below 0", x.adds(2, 2), -3);
    Check.dueNumber("17: below 0", x.adds(2, 3), -1);
  }

  /** A sum so small that its mean is nothing, but below 0. */
  private static void smallMean() {
    WhatIfSheet x = new WhatIfSheet();
    Check.tell(x, 1, "0.001*0.001*0.001*0.001*0.001*0.001*0.001*0.001*0.001*0.001*0.001");
    Check.tell(x, 2, "b*b*b*b*b*b*b*b*b/9999/9999/9999/9999/9999/9999");
    for (int n = 9999; n > 0; n--) {
      Check.tell(x, 3, "c/" + n);
      if (x.value(3) != 0) break;
    }
    Check.due("6: the smallest", x.value(3), 1);
    Check.tell(x, 4, "pick(a,-d,0)");
    x.table(0, 4, 0, -1);
    x.axis(0, 0, 0, 8, 2);
    Check.dueNumber("17: the smallest sum", x.adds(0, 0), -Double.MIN_VALUE);
    Check.dueNumber("17: its mean", x.adds(0, 1), -Double.MIN_VALUE / 2);
    Check.dueNumber("17: the least", x.adds(0, 2), -Double.MIN_VALUE);
    Check.dueNumber("17: the most", x.adds(0, 3), 0);
    x.axis(0, 0, 0, 0, 2);
    Check.dueNumber("17: of nothing", x.adds(0, 1), 0);
    Check.tell(x, 5, "mean 0");
    Check.dueNumber("17: kept", x.value(5), 0);
  }

  private static void asks() {
    WhatIfSheet x = sheet();
    x.table(0, 5, 0, 1);
    x.axis(0, 0, 16, -8, 4);
    x.axis(0, 1, 0, 8, 3);
    Check.due("18: first least", x.asks(0, 0), 31);
    Check.due("18: first most", x.asks(0, 1), 1);
    x.axis(0, 1, 0, 0, 3);
    Check.due("18: none", x.asks(0, 0), -1);
    Check.due("18: none", x.asks(0, 1), -1);
    x.axis(0, 0, 0, 0, 4);
    x.axis(0, 1, 8, 8, 3);
    Check.due("18: the first of like ones", x.asks(0, 0), 0);
    Check.due("18: the first of like ones", x.asks(0, 1), 0);
    Check.due("18: slice", x.asks(0, 2), 16 | 32);
    Check.due("18: told least", x.asks(0, 3), 1 * 3 + 1 * 3);
    Check.due("18: burden", x.asks(0, 4), 24);
    Check.due("18: values of one", x.asks(0, 5), 4);
    Check.due("18: values of other", x.asks(0, 6), 3);
    Check.due("18: unlike ones", x.asks(0, 7), 1);
    Check.due("18: unlike others", x.asks(0, 8), 3);
    x.kind(1, 3);
    x.axis(0, 1, 0, 1024, 8);
    Check.due("18: unlike as kept", x.asks(0, 8), 2);
    x.table(1, 5, 2, -1);
    Check.due("18: slice", x.asks(1, 2), 32);
    x.axis(1, 0, 0, 8, 3);
    Check.due("18: told least", x.asks(1, 3), 1 + 3);
    Check.due("18: no other", x.asks(1, 6), 0);
    Check.due("18: no other", x.asks(1, 8), 0);
    x.table(2, 6, 0, 1);
    Check.due("18: no slice", x.asks(2, 2), 0);
    x.axis(2, 0, 0, 8, 3);
    Check.due("18: told least once", x.asks(2, 3), 1);
    x.table(3, 3, 3, -1);
    Check.due("18: of an input", x.asks(3, 2), 0);
    Check.due("18: of an input", x.asks(3, 3), 0);
    Check.due("18: of an input", x.asks(3, 4), 0);
    Check.tell(x, 7, "a/0");
    x.table(3, 7, 0, -1);
    x.axis(3, 0, 8, 8, 3);
    Check.due("18: none without an other", x.asks(3, 0), -1);
    Check.due("18: none without an other", x.asks(3, 1), -1);
    Check.due("18: no table", x.asks(6, 0), -2);
    Check.due("18: no table", x.asks(-1, 0), -2);
    Check.due("18: what", x.asks(0, 9), -2);
    Check.due("18: what", x.asks(0, -1), -2);
    Check.due("18: what of none laid", x.asks(4, 9), -2);
    for (int what = 0; what < 9; what++) Check.due("18: not laid", x.asks(4, what), -3);
  }

  public static void main(String[] args) {
    table();
    tooHeavy();
    axis();
    axisBy();
    farNumbers();
    drop();
    atAndBlame();
    tablesWithinTables();
    namesAtBounds();
    deepTables();
    adds();
    smallMean();
    asks();
    Check.end();
  }
}
