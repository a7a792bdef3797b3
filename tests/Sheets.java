/** Sheets on which much is laid, to see what a call changes. */
final class Sheets {
  private Sheets() {}

  /**
   * a 1.5, b 7 (WHOLE), d -3 (SMALL), k 1.25 (TURN), l 1000 (CAPPED), x 0.375 (SINGLE); c is EMPTY; formulas in
   * e to j, m; tables 0 (f by a and d), 3 (g by x), 5 (e by b); rows 0 (doubles, FAILED ones too), 1 (ints), 2
   * (floats), 3 missing; an image of another state; a*2+b on the tape.
   */
  static WhatIfSheet rich() {
    WhatIfSheet x = new WhatIfSheet();
    x.set(0, 8);
    x.set(2, 80);
    Check.tell(x, 4, "a+c");
    Check.tell(x, 9, "e*e");
    x.table(1, 9, 0, 2);
    x.axis(1, 0, 8, 8, 3);
    x.kind(4, 1);
    x.image();
    x.drop(1);
    x.clear(2);
    x.kind(4, 0);
    x.kind(1, 1);
    x.kind(3, 3);
    x.kind(10, 4);
    x.kind(11, 5);
    x.kind(23, 2);
    x.set(0, 12);
    x.set(1, 57);
    x.set(3, -25);
    x.set(10, 2890);
    x.set(11, 9000);
    x.set(23, 3);
    Check.tell(x, 4, "a*b+d");
    Check.tell(x, 5, "e/d");
    Check.tell(x, 6, "sum 0-mean 5+x");
    Check.tell(x, 7, "pick(a<b,c,3)");
    Check.tell(x, 8, "1/(b-b)");
    Check.tell(x, 9, "sum 1");
    Check.tell(x, 12, "9999*9999*9999*9999");
    x.table(0, 5, 0, 3);
    x.axis(0, 0, 4, 4, 3);
    x.axis(0, 1, -8, 8, 2);
    x.table(5, 4, 1, -1);
    x.axis(5, 0, 8, 9, 4);
    x.table(3, 6, 23, -1);
    x.axis(3, 0, 0, 1, 2);
    x.film(0, 0);
    x.row(1, 1, 3);
    x.put(1, 1, -7);
    x.row(2, 2, 64);
    x.put(2, 63, 1);
    Check.type(x, "a*2+b");
    return x;
  }

  /**
   * Table 0 asks e (a + b) in 32 cases; m has a BURDEN of 1000, u one of 2000; table 1 (of m, by c and d) one of 2000;
   * x names table 2, which isn't laid; v and w are free, a+1 is on the tape.
   */
  static WhatIfSheet heavy() {
    WhatIfSheet x = new WhatIfSheet();
    x.set(0, 8);
    x.set(1, 8);
    Check.tell(x, 4, "a+b");
    x.table(0, 4, 0, 1);
    x.axis(0, 0, 8, 8, 8);
    x.axis(0, 1, 8, 8, 4);
    // Eight cells and 31 times 32 make 1000.
    for (int cell = 5; cell <= 20; cell++) {
      String before = cell == 5 ? "0" : "" + (char) ('a' + cell - 1);
      String times = cell == 12 || cell == 20 ? "+sum 0+sum 0+sum 0" : "+sum 0+sum 0+sum 0+sum 0";
      Check.tell(x, cell, before + times);
    }
    x.table(1, 12, 2, 3);
    x.axis(1, 0, 0, 8, 2);
    Check.tell(x, 23, "sum 2");
    x.image();
    x.row(0, 3, 8);
    x.put(0, 3, 8);
    Check.type(x, "a+1");
    return x;
  }
}
