/** Promises 1 to 8: a new object, set, clear, kind, told, value, would, taken. */
public final class CellsTest {
  private static void aNewObject() {
    WhatIfSheet x = new WhatIfSheet();
    for (int c = 0; c < 24; c++) {
      Check.due("1: kind of " + c, x.told(c, 0), 0);
      Check.due("1: formula of " + c, x.told(c, 1), 0);
      Check.due("1: reads of " + c, x.told(c, 2), 1 << c);
      Check.due("1: reached from " + c, x.told(c, 3), 1 << c);
      Check.due("1: burden of " + c, x.told(c, 4), 0);
      Check.due("1: error of " + c, x.told(c, 5), 1);
      Check.due("1: blame of " + c, x.told(c, 6), c);
      Check.due("1: emptiness of " + c, x.told(c, 7), 1);
      Check.due("1: value of " + c, x.value(c), -21);
    }
    for (int t = 0; t < 6; t++) Check.due("1: no table " + t, x.drop(t), -3);
    for (int row = 0; row < 4; row++) Check.due("1: no row " + row, x.item(row, 0), -11);
    for (int what = 0; what < 4; what++) Check.due("1: count " + what, x.count(what), 0);
    Check.due("1: no image", x.back(), -3);
  }

  private static void set() {
    WhatIfSheet x = new WhatIfSheet();
    Check.due("2: set", x.set(0, 20), 1);
    Check.dueNumber("2: in eighths", x.value(0), 2.5);
    Check.due("2: most", x.set(23, 8000000), 1);
    Check.dueNumber("2: most", x.value(23), 1000000);
    Check.due("2: least", x.set(23, -8000000), 1);
    Check.dueNumber("2: least", x.value(23), -1000000);
    Check.due("2: nothing", x.set(23, 0), 1);
    Check.due("2: nothing", x.value(23), 0);
    Check.due("2: too much", x.set(0, 8000001), -2);
    Check.due("2: too little", x.set(0, -8000001), -2);
    Check.due("2: least of all", x.set(0, Integer.MIN_VALUE), -2);
    Check.due("2: no cell", x.set(-1, 0), -2);
    Check.due("2: no cell", x.set(24, 0), -2);
    Check.dueNumber("2: changes nothing", x.value(0), 2.5);
    Check.tell(x, 1, "a+1");
    Check.due("2: a formula", x.set(1, 8), -3);
    Check.due("2: bad ahead of state", x.set(1, 8000001), -2);
    Check.dueNumber("2: formula stays", x.value(1), 3.5);
    Check.due("2: told as kept", x.kind(2, 1), 0);
    x.set(2, 29);
    x.kind(2, 0);
    Check.dueNumber("2: the kept number stays", x.value(2), 3);
  }

  private static void clear() {
    WhatIfSheet x = new WhatIfSheet();
    x.kind(0, 1);
    x.set(0, 8);
    Check.due("3: clear", x.clear(0), 1);
    Check.due("3: empty", x.told(0, 7), 1);
    Check.due("3: its kind stays", x.told(0, 0), 1);
    Check.due("3: value", x.value(0), -21);
    Check.due("3: once more", x.clear(0), 1);
    Check.tell(x, 1, "c+c");
    Check.tell(x, 3, "b");
    Check.due("3: with a formula", x.clear(1), 1);
    Check.due("3: no formula", x.told(1, 1), 0);
    Check.due("3: reads itself", x.told(3, 2), 2);
    Check.due("3: reached", x.told(3, 3), 10);
    Check.due("3: burden", x.told(3, 4), 1);
    Check.due("3: to be set", x.set(1, 8), 1);
    Check.dueNumber("3: told", x.value(3), 1);
    Check.due("3: no ring now", Check.tell(x, 2, "b"), 1);
    Check.due("3: no cell", x.clear(24), -2);
    Check.due("3: no cell", x.clear(-1), -2);
  }

  private static void keeps(int kind, int v, double want) {
    WhatIfSheet x = new WhatIfSheet();
    x.kind(0, kind);
    x.set(0, v);
    Check.dueNumber("4: " + v + " eighths as of kind " + kind, x.value(0), want);
    x.set(1, v);
    x.kind(1, kind);
    Check.dueNumber("4: " + v + " eighths, then of kind " + kind, x.value(1), want);
    x.set(2, v);
    Check.tell(x, 3, "c");
    x.kind(3, kind);
    Check.dueNumber("4: " + v + " eighths by a formula of kind " + kind, x.value(3), want);
  }

  private static void kinds() {
    keeps(0, 13, 1.625);
    keeps(1, 13, 1);
    keeps(1, -13, -1);
    keeps(1, -5, 0);
    keeps(2, 13, 1.625);
    keeps(3, 1023, 127);
    keeps(3, 1024, -128);
    keeps(3, -1024, -128);
    keeps(3, -1025, -128);
    keeps(3, -1032, 127);
    keeps(3, 8000000, 64);
    keeps(3, 2048, 0);
    keeps(4, 2880, 0);
    keeps(4, 2879, 359.875);
    keeps(4, -2881, -0.125);
    keeps(4, -2880, 0);
    keeps(4, 8000000, 280);
    keeps(5, 8000, 1000);
    keeps(5, 8001, 1000);
    keeps(5, -8001, -1000);
    keeps(5, -7999, -999.875);
    WhatIfSheet x = new WhatIfSheet();
    for (int k = 0; k < 6; k++) {
      Check.due("4: to kind " + k, x.kind(7, k), k == 0 ? 0 : k - 1);
      Check.due("4: kind " + k, x.told(7, 0), k);
    }
    Check.due("4: stays empty", x.told(7, 7), 1);
    x.set(8, 20);
    x.kind(8, 1);
    x.kind(8, 0);
    Check.dueNumber("4: what was cut is gone", x.value(8), 2);
    x.set(8, 8 * 300);
    x.kind(8, 3);
    x.kind(8, 5);
    Check.dueNumber("4: what was cut is gone", x.value(8), 44);
    Check.due("4: no kind", x.kind(7, 6), -2);
    Check.due("4: no kind", x.kind(7, -1), -2);
    Check.due("4: no cell", x.kind(24, 0), -2);
    Check.due("4: no cell", x.kind(-1, 0), -2);
    Check.due("4: changes nothing", x.told(7, 0), 5);
  }

  private static void keptOfFarNumbers() {
    WhatIfSheet x = new WhatIfSheet();
    Check.tell(x, 1, "a*a");
    x.set(0, 8000000 - 8);
    double far = 999999.0 * 999999.0;
    Check.dueNumber("4: plain", x.value(1), far);
    x.kind(1, 2);
    Check.dueNumber("4: as a float", x.value(1), (float) far);
    x.kind(1, 3);
    Check.dueNumber("4: lowest bits beyond an int", x.value(1), (byte) (long) far);
    x.kind(1, 4);
    Check.dueNumber("4: turned", x.value(1), (float) far % 360f);
    x.kind(1, 1);
    Check.dueNumber("4: whole", x.value(1), far);
    Check.tell(x, 2, "1/3");
    Check.dueNumber("4: a third", x.value(2), 1.0 / 3);
    x.kind(2, 2);
    Check.dueNumber("4: a third as a float", x.value(2), (float) (1.0 / 3));
    Check.tell(x, 3, "0-1/3");
    x.kind(3, 1);
    Check.due("4: no -0", x.value(3), 0);
    Check.tell(x, 4, "-(a-a)");
    Check.due("4: no -0 of a plain one", x.value(4), 0);
  }

  private static void told() {
    WhatIfSheet x = new WhatIfSheet();
    x.kind(4, 1);
    Check.tell(x, 4, "a+b*a");
    Check.tell(x, 5, "e/c");
    Check.tell(x, 6, "sum 0+f");
    Check.due("5: kind", x.told(4, 0), 1);
    Check.due("5: formula", x.told(4, 1), 1);
    Check.due("5: reads", x.told(5, 2), 7);
    Check.due("5: reached", x.told(5, 3), 1 | 2 | 4 | 16 | 32);
    Check.due("5: burden", x.told(5, 4), 2);
    Check.due("5: first error", x.told(5, 5), 1);
    Check.due("5: whose", x.told(5, 6), 0);
    x.set(0, 8);
    Check.due("5: whose now", x.told(5, 6), 1);
    x.set(1, 8);
    x.set(2, 0);
    Check.due("5: by 0", x.told(5, 5), 2);
    Check.due("5: by whom", x.told(6, 6), 6);
    Check.due("5: asks no table", x.told(6, 5), 4);
    x.set(2, 8);
    Check.due("5: no error", x.told(5, 5), 0);
    Check.due("5: no blame", x.told(5, 6), -1);
    Check.due("5: not empty", x.told(0, 7), 0);
    Check.due("5: a formula isn't empty", x.told(5, 7), 0);
    Check.due("5: empty", x.told(3, 7), 1);
    x.table(0, 4, 0, -1);
    x.axis(0, 0, 0, 8, 3);
    Check.due("5: what a table reads too", x.told(6, 2), 7);
    Check.due("5: not through tables", x.told(6, 3), 1 | 2 | 4 | 16 | 32 | 64);
    Check.due("5: burden by a table", x.told(6, 4), 3 + 3);
    Check.tell(x, 7, "sum 0+sum 0");
    Check.due("5: reads but for what it varies", x.told(7, 2), 2);
    Check.due("5: reached", x.told(7, 3), 128);
    Check.due("5: each time", x.told(7, 4), 7);
    x.set(3, 80);
    x.table(1, 3, 3, -1);
    Check.tell(x, 8, "mean 1+fails 1");
    Check.due("5: a table of an input", x.told(8, 4), 1);
    Check.due("5: reads none", x.told(8, 2), 0);
    Check.due("5: no cell", x.told(24, 0), -2);
    Check.due("5: no cell", x.told(-1, 0), -2);
    Check.due("5: no such thing", x.told(0, 8), -2);
    Check.due("5: no such thing", x.told(0, -1), -2);
  }

  private static void value() {
    WhatIfSheet x = new WhatIfSheet();
    x.set(0, 3);
    Check.dueNumber("6: value", x.value(0), 0.375);
    Check.tell(x, 1, "a*a-c");
    Check.due("6: empty", x.value(1), -21);
    x.set(2, 8);
    Check.dueNumber("6: formula", x.value(1), 0.375 * 0.375 - 1);
    Check.due("6: no cell", x.value(24), -2);
    Check.due("6: no cell", x.value(-1), -2);
    Check.due("6: no cell", x.value(Integer.MAX_VALUE), -2);
    for (int v = -40; v <= 40; v++) {
      x.set(0, v);
      Check.dueNumber("6: " + v, x.value(0), v / 8.0);
    }
  }

  /** Numbers down to the smallest there are. */
  private static void smallNumbers() {
    WhatIfSheet x = new WhatIfSheet();
    Check.tell(x, 0, "0.001*0.001*0.001*0.001*0.001*0.001*0.001*0.001*0.001*0.001*0.001");
    double small = 0.001 * 0.001 * 0.001 * 0.001 * 0.001 * 0.001 * 0.001 * 0.001 * 0.001 * 0.001 * 0.001;
    Check.dueNumber("6: small", x.value(0), small);
    Check.tell(x, 1, "a*a*a*a*a*a*a*a*a");
    double smaller = small;
    for (int k = 0; k < 8; k++) smaller *= small;
    Check.dueNumber("6: smaller", x.value(1), smaller);
    for (int k = 1; k < 40; k++) {
      Check.tell(x, 2, "b/" + (k * 97) + "/9999/9999/9999");
      Check.dueNumber("6: smallest " + k, x.value(2), smaller / (k * 97) / 9999 / 9999 / 9999);
      Check.tell(x, 4, "9999*9999*999%(c*-7)");
      double c = smaller / (k * 97) / 9999 / 9999 / 9999;
      if (c * -7 != 0) Check.dueNumber("6: left by the smallest " + k, x.value(4), 9999.0 * 9999 * 999 % (c * -7));
      Check.tell(x, 5, "-c");
      Check.dueNumber("6: below 0 " + k, x.value(5), 0 - c);
      x.kind(5, 2);
      Check.dueNumber("6: as floats " + k, x.value(5), 0.0);
      x.kind(5, 0);
    }
    Check.tell(x, 6, "1/b");
    Check.due("6: beyond all", x.value(6), -23);
    Check.tell(x, 7, "b*b");
    Check.due("6: nothing left", x.value(7), 0);
    Check.tell(x, 8, "1/h");
    Check.due("6: by nothing left", x.value(8), -22);
    Check.tell(x, 9, "h*-1");
    Check.due("6: no -0", x.value(9), 0);
  }

  private static void would() {
    WhatIfSheet x = new WhatIfSheet();
    Check.tell(x, 1, "a*2");
    Check.dueNumber("7: would", x.would(0, 24, 1), 6);
    Check.due("7: as it was", x.told(0, 7), 1);
    Check.dueNumber("7: the same", x.would(0, 24, 0), 3);
    x.set(0, 8);
    x.kind(0, 1);
    Check.dueNumber("7: kept", x.would(0, 15, 1), 2);
    Check.dueNumber("7: as it was", x.value(1), 2);
    Check.dueNumber("7: another that it doesn't read", x.would(2, 15, 1), 2);
    Check.due("7: an error", x.would(2, 15, 3), -21);
    Check.dueNumber("7: most", x.would(0, 8000000, 1), 2000000);
    Check.dueNumber("7: least", x.would(0, -8000000, 1), -2000000);
    Check.due("7: too much", x.would(0, 8000001, 1), -2);
    Check.due("7: too little", x.would(0, -8000001, 1), -2);
    Check.due("7: no cell", x.would(24, 0, 1), -2);
    Check.due("7: no output", x.would(0, 0, 24), -2);
    Check.due("7: no output", x.would(0, 0, -1), -2);
    Check.due("7: a formula", x.would(1, 0, 1), -3);
    Check.due("7: bad ahead of state", x.would(1, 0, 24), -2);
    x.value(1);
    x.set(0, 80);
    x.kind(0, 0);
    Check.dueNumber("7: the others are as they are now", x.would(2, 8, 1), 20);
    x.clear(0);
    Check.due("7: the others are as they are now", x.would(2, 8, 1), -21);
    x.table(0, 1, 0, -1);
    Check.tell(x, 3, "sum 0+a");
    Check.dueNumber("7: what a table varies stays its own", x.would(0, 80, 3), 10);
  }

  private static void taken() {
    WhatIfSheet x = new WhatIfSheet();
    int[][] under = {{0}, {1, 0}, {2, 0}, {3, 1, 0}, {4, 2, 0}, {5, 0}};
    for (int kind = 0; kind < 6; kind++) {
      x.kind(9, kind);
      for (int k = 0; k < 6; k++) {
        int want = -13;
        for (int over : under[kind]) if (over == k) want = kind;
        Check.due("8: kind " + kind + " for " + k, x.taken(9, k), want);
      }
    }
    Check.due("8: no cell", x.taken(24, 0), -2);
    Check.due("8: no cell", x.taken(-1, 0), -2);
    Check.due("8: no kind", x.taken(0, 6), -2);
    Check.due("8: no kind", x.taken(0, -1), -2);
  }

  public static void main(String[] args) {
    aNewObject();
    set();
    clear();
    kinds();
    keptOfFarNumbers();
    told();
    value();
    smallNumbers();
    would();
    taken();
    Check.end();
  }
}
