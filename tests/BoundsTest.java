import java.util.function.DoubleUnaryOperator;

/** The bounds that the document names, sentence by sentence: the last that is taken, the first that isn't. */
public final class BoundsTest {
  // ---- 1 CELLS: "CELLS 0 .. 23", "TABLES 0 .. 5", "ROWS 0 .. 3", and what else a call's numbers reach to

  private static void firstAndLastCell() {
    for (int cell : new int[] {0, 23}) {
      WhatIfSheet x = new WhatIfSheet();
      char name = (char) ('a' + cell);
      Check.due("2: set " + cell, x.set(cell, 17), 1);
      Check.dueNumber("6: value " + cell, x.value(cell), 2.125);
      Check.dueNumber("7: would " + cell, x.would(cell, 8, cell), 1);
      Check.dueNumber("7: output " + cell, x.would(11, 8, cell), 2.125);
      Check.due("4: kind " + cell, x.kind(cell, 0), 0);
      Check.due("8: taken " + cell, x.taken(cell, 0), 0);
      for (int what = 0; what < 8; what++) {
        int[] due = {0, 0, 1 << cell, 1 << cell, 0, 0, -1, 0};
        Check.due("5: told " + cell + " " + what, x.told(cell, what), due[what]);
      }
      Check.tell(x, 5, name + "*2+b-b");
      x.set(1, 0);
      Check.dueNumber("10: named " + name, x.value(5), 4.25);
      Check.dueNumber("19: input " + cell, x.seek(cell, 5, 0, 80, 32, 0), 2);
      Check.dueNumber("19: cell " + cell, x.seek(cell, cell, 0, 80, 24, 1), 3);
      Check.due("20: swung by " + cell, x.swing(5, 8, 0), cell);
      Check.due("20: swing of " + cell, x.swing(cell, 8, 0), cell);
      Check.due("21: chance of " + cell, x.chance(cell, 3, 20, -80000, 0), 1);
      Check.due("11: one " + cell, x.table(0, 5, cell, -1), 1);
      Check.due("11: other " + cell, x.table(5, 5, 7, cell), 1);
      Check.due("11: output " + cell, x.table(3, cell, 7, 8), 1);
      Check.due("22: film", x.film(3, 3), 1);
      for (int what = 0; what < 4; what++) {
        int[] due = {-1, 0b110101, 0, -1};
        Check.due("23: by " + cell, x.tells(3, 3, cell, what), due[what]);
      }
      x.drop(0);
      x.drop(5);
      Check.due("10: formula of " + cell, Check.tell(x, cell, "3"), 1);
      Check.due("3: clear " + cell, x.clear(cell), 1);
      Check.due("3: clear " + cell, x.told(cell, 7), 1);
    }
  }

  private static void firstAndLastTable() {
    for (int t : new int[] {0, 5}) {
      WhatIfSheet x = new WhatIfSheet();
      x.set(0, 8);
      Check.tell(x, 4, "1/a");
      Check.due("11: table " + t, x.table(t, 4, 0, 1), 1);
      Check.due("12: axis " + t, x.axis(t, 0, 0, 8, 2), 2);
      x.row(3, 3, 1);
      Check.due("13: axisBy " + t, x.axisBy(t, 1, 3, 0, 1), 2);
      Check.due("15: at " + t, x.at(t, 0, 0), -22);
      Check.due("16: blame " + t, x.blame(t, 0, 0), 4);
      Check.dueNumber("17: adds " + t, x.adds(t, 0), 1);
      Check.due("18: asks " + t, x.asks(t, 0), 10);
      Check.due("22: film " + t, x.film(t, 0), 2);
      Check.due("23: tells " + t, x.tells(t, 0, 0, 0), -1);
      Check.due("10: named " + t, Check.tell(x, 6, "sum " + t + "+fails" + t), 1);
      Check.dueNumber("10: named " + t, x.value(6), 2);
      Check.due("10: one beyond", Check.tell(x, 7, "sum 6"), -104);
      Check.due("14: drop " + t, x.drop(t), 1);
    }
  }

  private static void firstAndLastRow() {
    for (int row : new int[] {0, 3}) {
      WhatIfSheet x = new WhatIfSheet();
      Check.due("27: row " + row, x.row(row, 3, 2), 1);
      Check.due("28: put " + row, x.put(row, 1, 12), 1);
      Check.dueNumber("29: item " + row, x.item(row, 1), 1.5);
      Check.due("30: copy " + row, x.copy(row, 1, row, 0, 1), 1);
      Check.dueNumber("30: copy " + row, x.item(row, 0), 1.5);
      x.row(3 - row, 3, 2);
      Check.due("30: copy to " + row, x.copy(3 - row, 0, row, 0, 2), 2);
      Check.due("30: copy from " + row, x.copy(row, 0, 3 - row, 0, 2), 2);
      x.table(0, 0, 0, -1);
      Check.due("13: by " + row, x.axisBy(0, 0, row, 0, 2), 2);
      Check.due("23: by " + row, x.tells(0, row, 0, 0), -1);
      Check.due("22: film " + row, x.film(0, row), 2);
      Check.due("27: missing " + row, x.row(row, -1, 0), 1);
    }
  }

  /** The least and the most that each number may be. */
  private static void leastAndMost() {
    WhatIfSheet x = new WhatIfSheet();
    Check.due("2: most", x.set(0, 8000000), 1);
    Check.due("2: least", x.set(1, -8000000), 1);
    Check.dueNumber("7: most", x.would(2, 8000000, 2), 1000000);
    Check.dueNumber("7: least", x.would(2, -8000000, 2), -1000000);
    Check.due("9: least byte", x.feed(1, 0, 0, 0, 0, 0), 1);
    Check.due("9: most bytes", x.feed(5, 255, 255, 255, 255, 255), 6);
    x.formula(5);
    x.table(0, 3, 3, 4);
    Check.due("12: most of all", x.axis(0, 0, 80000, 8000, 8), 8);
    Check.dueNumber("12: the first", x.at(0, 0, 0), 10000);
    Check.dueNumber("12: the last", x.at(0, 7, 0), 17000);
    Check.due("12: least of all", x.axis(0, 1, -80000, -8000, 8), 64);
    x.table(0, 4, 3, 4);
    x.axis(0, 1, -80000, -8000, 8);
    Check.dueNumber("12: the first", x.at(0, 0, 0), -10000);
    Check.dueNumber("12: the last", x.at(0, 0, 7), -17000);
    Check.due("12: one", x.axis(0, 1, 3, 8, 1), 1);
    x.row(0, 3, 8);
    for (int i = 0; i < 8; i++) x.put(0, i, i);
    Check.due("13: one", x.axisBy(0, 1, 0, 7, 1), 1);
    Check.dueNumber("13: one", x.at(0, 0, 0), 0.875);
    Check.due("13: eight", x.axisBy(0, 1, 0, 0, 8), 8);
    Check.dueNumber("13: eight", x.at(0, 0, 7), 0.875);
    Check.dueNumber("19: least low", x.seek(6, 6, -80000, -79999, -80000, 0), -10000);
    Check.dueNumber("19: most high", x.seek(6, 6, 79999, 80000, 80000, 0), 10000);
    Check.due("19: beyond it, two were told", x.seek(6, 6, 79998, 79999, 80000, 2), 2);
    Check.due("19: beyond it", x.seek(6, 6, 79998, 79999, 80000, 0), -1);
    Check.dueNumber("19: just between", x.seek(6, 6, 79998, 80000, 79999, 0), 9999.875);
    x.set(7, 0);
    Check.dueNumber("20: least d", x.swing(7, 1, 1), 0.25);
    Check.dueNumber("20: most d", x.swing(7, 80000, 1), 20000);
    Check.due("21: one seed", x.chance(7, 0, 1, -200, 1), 1);
    Check.due("21: most seeds", x.chance(7, 0, 20, -80000, 0), 1);
    Check.due("21: most wanted", x.chance(7, 0, 20, 80000, 1), 1);
    for (int n = 0; n <= 64; n++) {
      Check.due("27: n " + n, x.row(1, n % 4, n), 1);
      Check.due("27: n " + n, x.item(1, n - 1), n == 0 ? -12 : 0);
      Check.due("27: n " + n, x.item(1, n), -12);
    }
  }

  // ---- KEPT by a KIND

  private static void kept(int kind, String text, double want) {
    WhatIfSheet x = new WhatIfSheet();
    x.kind(9, kind);
    Check.due("1: <" + text + ">", Check.tell(x, 9, text), 1);
    Check.dueNumber("1: <" + text + "> KEPT by " + kind, x.value(9), want);
  }

  private static void keptAtBounds() {
    kept(1, "0.999", 0);
    kept(1, "1", 1);
    kept(1, "1.999", 1);
    kept(1, "-0.999", 0);
    kept(1, "-1", -1);
    kept(1, "-1.999", -1);
    kept(1, "1000*1000*1000*1000-0.5", 999999999999.0);
    kept(1, "-(1000*1000*1000*1000-0.5)", -999999999999.0);
    kept(1, "2048*1024*1024-0.5", 2147483647);
    kept(1, "2048*1024*1024+0.5", 2147483648.0);
    kept(1, "-2048*1024*1024-1.5", -2147483649.0);
    // Halfway between two floats it is the even one.
    kept(2, "4096*4096", 16777216);
    kept(2, "4096*4096+1", 16777216);
    kept(2, "4096*4096+1.001", 16777218);
    kept(2, "4096*4096+2", 16777218);
    kept(2, "4096*4096+3", 16777220);
    kept(2, "4096*4096+2.999", 16777218);
    kept(2, "-4096*4096-1", -16777216);
    kept(2, "-4096*4096-3", -16777220);
    kept(2, "0.1", (double) 0.1f);
    kept(3, "127", 127);
    kept(3, "127.999", 127);
    kept(3, "128", -128);
    kept(3, "-128", -128);
    kept(3, "-128.999", -128);
    kept(3, "-129", 127);
    kept(3, "255", -1);
    kept(3, "255.5", -1);
    kept(3, "256", 0);
    kept(3, "-0.5", 0);
    kept(3, "-1", -1);
    kept(3, "2048*1024*1024-1", -1);
    kept(3, "2048*1024*1024", 0);
    kept(3, "4096*1024*1024+200", -56);
    kept(3, "-4096*1024*1024-200", 56);
    kept(3, "1000*1000*1000*1000-1", -1);
    kept(4, "359.999", (double) 359.999f);
    kept(4, "360", 0);
    kept(4, "360.125", 0.125);
    kept(4, "719.875", 359.875);
    kept(4, "720", 0);
    kept(4, "-359.875", -359.875);
    kept(4, "-360", 0);
    kept(4, "-360.125", -0.125);
    // As a float it is 360 already, and nothing is left.
    kept(4, "359.999+0.001/1.001", 360.0f % 360.0f);
    kept(4, "4096*4096+1", (double) (16777216f % 360f));
    kept(4, "1000*1000*1000*1000", (double) (1e12f % 360f));
    kept(4, "-1000*1000*1000*1000", (double) (-1e12f % 360f));
    kept(5, "999.999", 999.999);
    kept(5, "1000", 1000);
    kept(5, "1000.001", 1000);
    kept(5, "-999.999", -999.999);
    kept(5, "-1000", -1000);
    kept(5, "-1000.001", -1000);
    kept(5, "1000*1000*1000*1000", 1000);
    for (int kind = 0; kind < 6; kind++) {
      kept(kind, "0", 0);
      kept(kind, "-0", 0);
      kept(kind, "0*-1", 0);
      kept(kind, "-3%3", 0);
      kept(kind, "0/-5", 0);
    }
  }

  /** "The first that is wrong" comes ahead of what KEEPS: an ERROR is no number to cap. */
  private static void errorsAreNotKept() {
    for (int kind = 0; kind < 6; kind++) {
      WhatIfSheet x = new WhatIfSheet();
      x.kind(9, kind);
      Check.tell(x, 9, "1000*1000*1000*1000*2");
      Check.due("1: ERROR 3 by " + kind, x.value(9), -23);
      Check.tell(x, 9, "1/0");
      Check.due("1: ERROR 2 by " + kind, x.value(9), -22);
      Check.tell(x, 9, "a");
      Check.due("1: ERROR 1 by " + kind, x.value(9), -21);
      Check.tell(x, 9, "most 0");
      Check.due("1: ERROR 4 by " + kind, x.value(9), -24);
    }
  }

  // ---- ERRORS 2 and 3

  private static void far(String text, double want) {
    WhatIfSheet x = new WhatIfSheet();
    Check.tell(x, 0, "1000*1000*1000*1000");
    Check.tell(x, 1, text);
    if (want <= 1e12 && want >= -1e12) {
      Check.dueNumber("1: <" + text + ">", x.value(1), want);
      Check.due("1: <" + text + ">", x.told(1, 6), -1);
    } else {
      Check.due("1: <" + text + ">", x.value(1), -23);
      Check.due("1: <" + text + ">", x.told(1, 6), 1);
    }
  }

  private static void farNumbers() {
    double a = 1e12;
    far("a+0", a);
    // What is rounded to the farthest number isn't beyond it.
    far("a+0.05/1000", a + 0.05 / 1000);
    far("a+0.07/1000", a + 0.07 / 1000);
    far("a+0.001", a + 0.001);
    far("-a-0.05/1000", -a - 0.05 / 1000);
    far("-a-0.07/1000", -a - 0.07 / 1000);
    far("-a-0.001", -a - 0.001);
    far("-a+-0.001", -a + -0.001);
    far("a--0.001", a + 0.001);
    far("a*1", a);
    far("a*1.001", a * 1.001);
    far("a*-1", -a);
    far("a*-1.001", a * -1.001);
    far("(a-0.001)*1", a - 0.001);
    far("1000*1000*(1000*1000+0.001)", 1000.0 * 1000 * (1000.0 * 1000 + 0.001));
    far("a/1", a);
    far("a/0.999", a / 0.999);
    far("a/-1", -a);
    far("a/-0.999", a / -0.999);
    far("1/0.001/0.001/0.001/0.001", 1 / 0.001 / 0.001 / 0.001 / 0.001);
    far("a%9999", a % 9999);
    far("-a%0.007", -a % 0.007);
    far("9999%a", 9999);
    far("a%a", 0);
    far("-a", -a);
    far("- -a", a);
    far("max(a,-a)", a);
    far("min(a,-a)", -a);
    far("a=a", 1);
    far("pick(1,a,0)", a);
    // On the way it is too far, at the end it would not be.
    WhatIfSheet x = new WhatIfSheet();
    Check.tell(x, 0, "1000*1000*1000*1000");
    Check.tell(x, 1, "a+a-a");
    Check.due("1: too far on the way", x.value(1), -23);
    Check.tell(x, 1, "a*a/a");
    Check.due("1: too far on the way", x.value(1), -23);
    Check.tell(x, 1, "(a+a)*0");
    Check.due("1: too far on the way", x.value(1), -23);
    Check.tell(x, 1, "0*(1/0)");
    Check.due("1: by 0 on the way", x.value(1), -22);
    Check.tell(x, 1, "a-a+a");
    Check.dueNumber("1: not too far on the way", x.value(1), 1e12);
  }

  private static void byNothing() {
    String[] nothings = {"0", "-0", "0.0", "(1-1)", "(0.1-0.1)", "-(1-1)", "(0*-7)", "(3=4)", "fails 1", "b"};
    for (String nothing : nothings) {
      for (String by : new String[] {"/", "%"}) {
        WhatIfSheet x = new WhatIfSheet();
        x.set(1, 0);
        x.set(2, 8);
        x.table(1, 2, 2, -1);
        Check.tell(x, 9, "7" + by + nothing);
        Check.due("1: 7" + by + nothing, x.value(9), -22);
        Check.due("1: 7" + by + nothing, x.told(9, 6), 9);
        Check.tell(x, 9, "0" + by + nothing);
        Check.due("1: 0" + by + nothing, x.value(9), -22);
        Check.tell(x, 9, "7" + by + "(" + nothing + "+0.001)");
        Check.dueNumber("1: 7" + by + "0.001", x.value(9), by.equals("/") ? 7 / 0.001 : 7 % 0.001);
        Check.tell(x, 9, "7" + by + "(" + nothing + "-0.001)");
        Check.dueNumber("1: 7" + by + "-0.001", x.value(9), by.equals("/") ? 7 / -0.001 : 7 % -0.001);
      }
    }
    // A KIND makes nothing of a number.
    WhatIfSheet x = new WhatIfSheet();
    x.kind(0, 1);
    x.set(0, 7);
    Check.tell(x, 1, "1/a");
    Check.due("1: by what was cut to 0", x.value(1), -22);
    x.kind(0, 0);
    x.set(0, 7);
    Check.dueNumber("1: by what wasn't", x.value(1), 1 / 0.875);
  }

  // ---- "Its ERROR is the first that comes so"

  /** f is EMPTY, u / 0, v too far, table 0 not laid, e 5: each with each by each operation. */
  private static void firstOfErrors() {
    String[] parts = {"e", "f", "u", "v", "sum 0"};
    int[] errors = {0, 1, 2, 3, 4};
    int[] blames = {-1, 5, 20, 21, 9};
    for (int p = 0; p < 5; p++) {
      for (int q = 0; q < 5; q++) {
        int first = p != 0 ? p : q;
        for (String text : new String[] {"A+B", "A-B", "A*B", "A/B", "A%B", "A<B", "A=B", "min(A,B)", "max(A,B)",
            "-A+B", "A--B", "(A)*(B)", "0*A+B", "1+A/B", "1-(A%B)", "A*2<B*2", "pick(A,B,B)", "pick(1,A,0)+B",
            "pick(0,0,A)+pick(1,B,0)", "pick(1,pick(0,u,A),v)/B", "min(max(A,B),u)", "A/B+u", "pick(A=B,1,1)"}) {
          boolean rest = text.endsWith("u)") || text.endsWith("+u");
          int due = first != 0 ? first : rest ? 2 : 0;
          String of = text.replace("A", parts[p]).replace("B", parts[q]);
          WhatIfSheet x = erring();
          Check.due("1: <" + of + ">", Check.tell(x, 9, of), 1);
          Check.due("1: ERROR of <" + of + ">", x.told(9, 5), errors[due]);
          Check.due("1: BLAME of <" + of + ">", x.told(9, 6), due == 0 ? -1 : blames[due]);
        }
      }
    }
    // What pick leaves doesn't count, wherever it stands; what its first has counts.
    for (int p = 1; p < 5; p++) {
      for (String text : new String[] {"pick(1,7,A)", "pick(0,A,7)", "pick(0,A/A,7)", "1*pick(e,7,A)", "pick(1,7,pick(A,A,A))",
          "pick(pick(0,A,1),7,A)", "max(pick(1,7,A),pick(0,A,2))", "pick(1,pick(0,A,7),A+1)", "7+(0*pick(0,A,3))"}) {
        String of = text.replace("A", parts[p]);
        WhatIfSheet x = erring();
        Check.due("1: <" + of + ">", Check.tell(x, 9, of), 1);
        Check.dueNumber("1: <" + of + ">", x.value(9), 7);
      }
    }
  }

  private static WhatIfSheet erring() {
    WhatIfSheet x = new WhatIfSheet();
    x.set(4, 40);
    Check.tell(x, 20, "1/0");
    Check.tell(x, 21, "9999*9999*9999*9999");
    return x;
  }

  private static void number(String text, double want) {
    WhatIfSheet x = new WhatIfSheet();
    x.set(0, 8);
    Check.due("1: <" + text + ">", Check.tell(x, 9, text), 1);
    Check.dueNumber("1: <" + text + ">", x.value(9), want);
  }

  /** Parts within parts, on either side of an operation. */
  private static void partsWithin() {
    number("1+pick(1,2,3)", 3);
    number("1+pick(0,2,3)", 4);
    number("2*pick(0,2,3)+pick(1,4,5)", 10);
    number("10-pick(pick(0,1,0),2,pick(1,3,4))*2", 4);
    number("pick(1,pick(1,pick(1,pick(0,2,3),4),5),6)", 3);
    number("7-pick(1<2,1+pick(2<1,5,2),9)-1", 3);
    number("5+min(3,pick(1,2,1))", 7);
    number("5+max(3,-min(-4,2))*2", 13);
    number("1+(2<3)*4", 5);
    number("1<2+3", 1);
    number("1+2<3", 0);
    number("1+2=3", 1);
    number("1=1+1", 0);
    number("7.5%1", 0.5);
    number("-7.5%1", -0.5);
    number("7.5%-1", 0.5);
    number("7.5/1", 7.5);
    number("7.5/-1", -7.5);
    number("0.999%1", 0.999);
    number("1%1", 0);
    number("9-2*3%4/2+1", 9 - 2.0 * 3 % 4 / 2 + 1);
    number("min(1,1)+max(1,1)", 2);
    number("min(-0.001,0)", -0.001);
    number("max(-0.001,0)", 0);
    number("pick(0.001*0.001,1,2)", 1);
    number("pick(a-1,1,2)", 2);
  }

  /** A formula that is told anew leaves nothing of the one before, be it longer or shorter. */
  private static void formulasAnew() {
    WhatIfSheet x = new WhatIfSheet();
    x.set(0, 24);
    x.table(0, 0, 1, -1);
    String[] texts = {"a", "--a", "-a", "---a", "a*2", "a", "pick(1,a,2)", "1", "sum 0+sum 0*2-7", "a", "-a+1", "5",
        "min(a,1)*-2", "2", "(a<4)+(a=3)", "a"};
    double[] due = {3, 3, -3, -3, 6, 3, 3, 1, 2, 3, -2, 5, -2, 2, 2, 3};
    for (int round = 0; round < 3; round++) {
      for (int k = 0; k < texts.length; k++) {
        for (int cell : new int[] {9, 10}) {
          Check.due("10: anew <" + texts[k] + ">", Check.tell(x, cell, texts[k]), 1);
          Check.dueNumber("10: anew <" + texts[k] + ">", x.value(cell), due[k]);
          int reads = texts[k].indexOf('a') >= 0 || texts[k].indexOf('u') >= 0 ? 1 : 0;
          Check.due("10: anew <" + texts[k] + "> reads", x.told(cell, 2), reads);
          Check.due("10: anew <" + texts[k] + "> burden", x.told(cell, 4), 1);
          Check.due("10: anew <" + texts[k] + "> reaches", x.told(cell, 3),
              1 << cell | (texts[k].indexOf('a') >= 0 ? 1 : 0));
        }
      }
    }
  }

  /** Each cell, with a formula and cleared, dropped from an image, is an INPUT wholly. */
  private static void eachCellCleared() {
    for (int cell = 0; cell < 24; cell++) {
      int named = (cell + 5) % 24;
      int asking = (cell + 11) % 24;
      WhatIfSheet x = new WhatIfSheet();
      x.image();
      for (int way = 0; way < 2; way++) {
        x.set(named, 8);
        Check.tell(x, cell, (char) ('a' + named) + "+1");
        Check.tell(x, asking, (char) ('a' + cell) + "*2");
        Check.due("5: reads", x.told(asking, 2), 1 << named);
        Check.due("5: burden", x.told(asking, 4), 2);
        if (way == 0) x.clear(cell);
        else x.back();
        Check.due("3: reads itself", x.told(cell, 2), 1 << cell);
        Check.due("3: reaches itself", x.told(cell, 3), 1 << cell);
        Check.due("3: no burden", x.told(cell, 4), 0);
        Check.due("3: empty", x.told(cell, 7), 1);
        Check.due("3: blame", x.told(cell, 6), cell);
        if (way == 0) Check.due("3: is read", x.told(asking, 2), 1 << cell);
        if (way == 0) Check.due("3: is reached", x.told(asking, 3), 1 << cell | 1 << asking);
        if (way == 0) Check.due("3: burden without it", x.told(asking, 4), 1);
        Check.due("3: it may be named by what it named", Check.tell(x, named, (char) ('a' + cell) + ""), 1);
        x.clear(named);
        x.clear(asking);
      }
    }
  }

  // ---- TABLES

  /** What all CASES fail in, what one doesn't fail in, what isn't laid: by adds, and as a formula tells it. */
  private static void failingAtBounds() {
    for (int good = 0; good <= 3; good++) {
      WhatIfSheet x = new WhatIfSheet();
      Check.tell(x, 4, "1/a");
      x.table(2, 4, 0, -1);
      x.row(0, 3, 3);
      for (int i = 0; i < good; i++) x.put(0, 2 - i, 16);
      x.axisBy(2, 0, 0, 0, 3);
      String[] words = {"sum", "mean", "least", "most", "fails"};
      double[] due = {0.5 * good, 0.5, 0.5, 0.5, 3 - good};
      for (int what = 0; what < 5; what++) {
        Check.due("2: " + words[what], Check.tell(x, 5, words[what] + " 2"), 1);
        boolean none = good == 0 && what >= 1 && what <= 3;
        String name = "2: " + words[what] + " of " + good + " that don't fail";
        if (none) {
          Check.due(name, x.adds(2, what), -24);
          Check.due(name, x.value(5), -24);
          Check.due(name, x.told(5, 6), 5);
        } else {
          if (what == 4) Check.due(name, x.adds(2, what), 3 - good);
          else Check.dueNumber(name, x.adds(2, what), due[what]);
          Check.dueNumber(name, x.value(5), due[what]);
          Check.due(name, x.told(5, 6), -1);
        }
      }
      Check.due("18: first least", x.asks(2, 0), good == 0 ? -1 : 10 * (3 - good));
      Check.due("18: first most", x.asks(2, 1), good == 0 ? -1 : 10 * (3 - good));
      x.drop(2);
      for (int what = 0; what < 5; what++) {
        Check.tell(x, 5, words[what] + " 2");
        Check.due("2: " + words[what] + " of none laid", x.value(5), -24);
        Check.due("2: " + words[what] + " of none laid", x.told(5, 6), 5);
      }
    }
  }

  /** TOLD LEAST, BURDEN and the rest by whether what is named is laid now. */
  private static void laidAndDropped() {
    WhatIfSheet x = new WhatIfSheet();
    Check.tell(x, 4, "a+b");
    Check.tell(x, 5, "sum 0+a+sum 0");
    x.table(1, 5, 0, -1);
    x.axis(1, 0, 0, 8, 3);
    for (int round = 0; round < 2; round++) {
      Check.due("18: told least, none laid within", x.asks(1, 3), 3);
      Check.due("18: burden, none laid within", x.asks(1, 4), 3);
      Check.due("5: reads, none laid", x.told(5, 2), 1);
      x.table(0, 4, 1, -1);
      x.axis(0, 0, 0, 8, 2);
      Check.due("18: told least, one laid within", x.asks(1, 3), (1 + 2 * 2) * 3);
      Check.due("18: burden, one laid within", x.asks(1, 4), (1 + 2 * 2) * 3);
      x.axis(0, 0, 0, 0, 2);
      Check.due("18: told least, like values", x.asks(1, 3), (1 + 2 * 1) * 3);
      Check.due("18: burden, like values", x.asks(1, 4), (1 + 2 * 2) * 3);
      Check.due("14: drop", x.drop(0), 1);
    }
  }

  /** "KEPT by that INPUT's KIND whenever they are asked": what was told is not cut for good. */
  private static void axesKept() {
    WhatIfSheet x = new WhatIfSheet();
    x.table(0, 0, 0, 1);
    x.axis(0, 0, -1030, 3, 8);
    x.axis(0, 1, 2879, 1, 8);
    int[] kinds = {3, 1, 5, 4, 2, 0, 3, 0};
    for (int kind : kinds) {
      x.kind(0, kind);
      int unlike = 0;
      double before = Double.NaN;
      for (int i = 0; i < 8; i++) {
        double v = (-1030 + 3 * i) / 8.0;
        double as = kind == 1 ? (long) v : kind == 3 ? (byte) (long) v : v;
        Check.dueNumber("2: case " + i + " KEPT by " + kind, x.at(0, i, 7), as);
        if (as != before) unlike++;
        before = as;
      }
      Check.due("18: unlike, KEPT by " + kind, x.asks(0, 7), unlike);
      Check.due("18: how many, KEPT by " + kind, x.asks(0, 5), 8);
    }
    x.kind(1, 4);
    x.axis(0, 1, 2880, -1440, 3);
    Check.due("18: unlike ones of 360, 180, 0", x.asks(0, 8), 2);
    x.axis(0, 1, 8000, 1, 3);
    x.kind(1, 5);
    Check.due("18: unlike ones above 1000", x.asks(0, 8), 1);
    x.kind(1, 0);
    Check.due("18: unlike ones above 1000", x.asks(0, 8), 3);
  }

  // ---- TELLS

  /** Each KIND by which all would be so, and none by which they wouldn't. */
  private static void kindsTold() {
    double[] values = {2.5, 300.75, 1000.125, -0.5, 400.0, 2000.0, 5.0, -129.0, 0.0};
    for (double value : values) {
      for (int was = 0; was < 6; was++) {
        WhatIfSheet x = new WhatIfSheet();
        x.set(0, (int) (value * 8));
        Check.tell(x, 4, "a");
        x.table(0, 4, 1, -1);
        x.axis(0, 0, 0, 8, 2);
        x.kind(4, was);
        x.film(0, 0);
        double told = keptBy(was, value);
        int due = 0;
        for (int k = 0; k < 6; k++) if (keptBy(k, value) == told) due |= 1 << k;
        Check.due("23: kinds of " + value + " as of " + was, x.tells(0, 0, 4, 1), due);
        Check.due("23: it is of its kind", x.told(4, 0), was);
        // An INPUT's NUMBER is KEPT anew by each, from what it is.
        x.kind(4, 0);
        x.kind(0, was);
        int of = 0;
        for (int k = 0; k < 6; k++) if (keptBy(k, told) == told) of |= 1 << k;
        Check.due("23: kinds of an input " + value + " as of " + was, x.tells(0, 0, 0, 1), of);
        Check.dueNumber("23: it has its number", x.value(0), told);
      }
    }
    // By one kind alone, and by none.
    WhatIfSheet x = new WhatIfSheet();
    x.set(0, 2401);
    Check.tell(x, 4, "a");
    x.table(0, 4, 1, -1);
    x.row(0, 3, 1);
    x.put(0, 0, 44 * 8);
    Check.due("23: by SMALL alone", x.tells(0, 0, 0, 1), 8);
    x.put(0, 0, 2400);
    Check.due("23: by WHOLE alone", x.tells(0, 0, 4, 1), 2);
    x.put(0, 0, 2402);
    Check.due("23: by none", x.tells(0, 0, 4, 1), 0);
  }

  private static double keptBy(int kind, double v) {
    double as = v;
    if (kind == 1) as = (long) v;
    if (kind == 2) as = (float) v;
    if (kind == 3) as = (byte) (long) v;
    if (kind == 4) as = (float) v % 360f;
    if (kind == 5) as = Math.max(-1000, Math.min(1000, v));
    return as == 0 ? 0 : as;
  }

  // ---- THE TAPE, TOKENS, FAULT

  private static void fault(String text, int place) {
    WhatIfSheet x = new WhatIfSheet();
    Check.due("10: fault of <" + text + ">", Check.tell(x, 9, text), -100 - place);
    Check.due("10: fault of <" + text + ">", x.told(9, 1), 0);
  }

  private static void taken(String text) {
    WhatIfSheet x = new WhatIfSheet();
    Check.due("10: <" + text + ">", Check.tell(x, 24 - 1, text), 1);
    Check.due("10: <" + text + ">", x.told(23, 1), 1);
  }

  /** What becomes of each byte that there is, alone, behind a cell, behind a sign, ahead of a cell. */
  private static void eachByte() {
    for (int b = 0; b < 256; b++) {
      boolean cell = b >= 'a' && b <= 'w';
      boolean letter = b >= 'a' && b <= 'z';
      boolean digit = b >= '0' && b <= '9';
      boolean blank = b == 32 || b == 10;
      boolean between = b == '+' || b == '-' || b == '*' || b == '/' || b == '%' || b == '<' || b == '=';
      String one = "" + (char) b;
      String name = "10: byte " + b;
      boolean x = b == 'x';
      Check.due(name + " alone", told(one), cell || digit ? 1 : x ? -5 : b == '-' || b == '(' || blank ? -101 : -100);
      Check.due(name + " behind a cell", told("a" + one), letter ? -100 : blank ? 1 : between ? -102 : -101);
      Check.due(name + " behind a blank", told("a " + one), blank ? 1 : between ? -103 : -102);
      Check.due(name + " behind a sign", told("a+" + one),
          cell || digit ? 1 : x ? -5 : blank || b == '-' || b == '(' ? -103 : -102);
      Check.due(name + " ahead of a cell", told(one + "a"),
          letter ? -100 : digit ? -101 : blank || b == '-' ? 1 : b == '(' ? -102 : -100);
      Check.due(name + " between cells", told("a" + one + "b"), letter ? -100 : blank ? -102 : between ? 1 : -101);
    }
  }

  private static int told(String text) {
    return Check.tell(new WhatIfSheet(), 23, text);
  }

  private static void words() {
    for (char c = 'a'; c <= 'w'; c++) taken("" + c);
    fault("y", 0);
    fault("z", 0);
    for (String word : new String[] {"pick", "min", "max", "sum", "mean", "least", "most", "fails"}) {
      boolean asks = !word.equals("pick") && !word.equals("min") && !word.equals("max");
      String parts = asks ? " 0" : word.equals("pick") ? "(1,2,3)" : "(1,2)";
      taken(word + parts);
      taken(word + " \n" + parts);
      if (asks) taken(word + "0");
      fault(word, word.length());
      fault(word + "s" + parts, 0);
      fault("s" + word + parts, 0);
      fault(word.substring(1) + parts, 0);
      fault(word.substring(0, word.length() - 1) + parts, 0);
      fault(word + word + parts, 0);
      fault(word + " " + word + parts, word.length() + 1);
      fault("a " + word + parts, 2);
      fault(word.toUpperCase() + parts, 0);
      fault(word.substring(0, 1) + " " + word.substring(1) + parts, 2);
      if (asks) {
        for (int t = 0; t < 6; t++) taken(word + " " + t);
        fault(word + " 6", word.length() + 1);
        fault(word + " 10", word.length() + 1);
        fault(word + " 5.0", word.length() + 1);
        fault(word + " 0.5", word.length() + 1);
        fault(word + " a", word.length() + 1);
        fault(word + "(0)", word.length());
        fault(word + " -0", word.length() + 1);
        fault(word + " 0 1", word.length() + 3);
        fault(word + " 00000", word.length() + 1);
        taken(word + " 0005");
        fault(word + " 0006", word.length() + 1);
      } else {
        fault(word + "()", word.length() + 1);
        fault(word + "(1", word.length() + 2);
        fault(word + "(1,", word.length() + 3);
        fault(word + "(1)", word.length() + 2);
        fault(word + " 1", word.length() + 1);
        fault(word + "1,2)", word.length());
        fault(word + "(1 2)", word.length() + 3);
        fault(word + "(1,2,3,4)", word.length() + (word.equals("pick") ? 6 : 4));
        if (word.equals("pick")) fault(word + "(1,2)", word.length() + 4);
        fault(word + "(1<2<3,2)", word.length() + 4);
      }
    }
  }

  private static void numbers() {
    String[] whole = {"0", "7", "10", "99", "100", "999", "1000", "9999", "0000", "0001"};
    String[] parts = {"0", "1", "9", "00", "01", "99", "000", "001", "999", "500"};
    for (String w : whole) {
      taken(w);
      for (String p : parts) {
        WhatIfSheet x = new WhatIfSheet();
        String text = w + "." + p;
        Check.due("10: <" + text + ">", Check.tell(x, 9, text), 1);
        int thousandths = Integer.parseInt(w) * 1000 + Integer.parseInt((p + "00").substring(0, 3));
        Check.dueNumber("10: <" + text + ">", x.value(9), thousandths / 1000.0);
        fault(w + "." + p + "." + p, text.length());
        fault(w + " ." + p, w.length() + 1);
      }
      fault(w + ".", 0);
      fault(w + ". 5", 0);
      fault("a+" + w + ".", 2);
      fault(w + ".0000", 0);
      fault(w + ".a", 0);
      fault(w + " " + w, w.length() + 1);
      fault(w + "a", w.length());
    }
    fault("10000", 0);
    fault("00000", 0);
    fault("99999.9", 0);
    fault("1234567890123456789012345678901234567890", 0);
    fault("1.2345678901234567890", 0);
    fault("(12345)", 1);
  }

  /** Four of ( and - that are open are taken, five are none; those that were ended count no more. */
  private static void fourOpen() {
    String[] opens = {"(", "-", "pick(", "min(", "max("};
    String[] ends = {")", "", ",1,1)", ",1)", ",1)"};
    int[] signAt = {0, 0, 4, 3, 3};
    for (int code = 0; code < 3125; code++) {
      StringBuilder text = new StringBuilder();
      StringBuilder end = new StringBuilder();
      int place = 0;
      int rest = code;
      for (int k = 0; k < 5; k++) {
        int open = rest % 5;
        rest = rest / 5;
        place = text.length() + signAt[open];
        text.append(opens[open]);
        end.insert(0, ends[open]);
        if (k == 3) taken(text + "1" + end);
      }
      fault(text + "1" + end, place);
    }
    taken("((((1))))+((((1))))*----1-----1");
    fault("((((1))))+((((1))))*----1------1", 30);
    taken("(((1)+(1)))");
    fault("(((((1))))+1)", 4);
    taken("-(-(1))");
    fault("-(-(-1))", 4);
    taken("pick(((1)),-(-1),(-1))");
    // A - that stands between isn't ahead of a ONE.
    taken("((((1-1-1))))");
    fault("((((1--1))))", 6);
    fault("((((1,1))))", 5);
  }

  private static void fullTape() {
    StringBuilder text = new StringBuilder("1");
    while (text.length() < 95) text.append("+1");
    WhatIfSheet x = new WhatIfSheet();
    Check.due("10: 95 bytes", Check.tell(x, 0, text.toString()), 1);
    Check.dueNumber("10: 95 bytes", x.value(0), 48);
    Check.due("10: 96 bytes", Check.tell(x, 0, text + " "), 1);
    Check.due("10: 96 bytes", Check.tell(x, 0, text.substring(0, 94) + "10"), 1);
    Check.dueNumber("10: 96 bytes", x.value(0), 57);
    Check.due("10: ends too early at 96", Check.tell(x, 0, text + "+"), -196);
    Check.due("10: fault at 95", Check.tell(x, 0, text + ")"), -195);
    Check.due("10: 96 blanks", Check.tell(x, 0, " ".repeat(96)), -196);
    Check.dueNumber("10: stays", x.value(0), 57);
    Check.due("10: a word at the end", Check.tell(x, 0, text.substring(0, 94) + "mi"), -194);
    Check.due("10: a word at the end", Check.tell(x, 0, text.substring(0, 94) + "b "), 1);
    Check.due("10: a number at the end", Check.tell(x, 0, text.substring(0, 94) + "1."), -194);
    Check.due("10: a table at the end", Check.tell(x, 0, text.substring(0, 92) + "sum0"), 1);
    Check.due("10: no table at the end", Check.tell(x, 0, text.substring(0, 92) + "sum "), -196);
  }

  // ---- SOUGHT

  /** What is SOUGHT, told by the words of the document. */
  private static void sought(String text, DoubleUnaryOperator f, int low, int high, int want) {
    WhatIfSheet x = new WhatIfSheet();
    Check.due("19: <" + text + ">", Check.tell(x, 1, text), 1);
    double w = want / 8.0;
    double l = low / 8.0;
    double h = high / 8.0;
    double fl = f.applyAsDouble(l);
    double fh = f.applyAsDouble(h);
    int told = 2;
    double found = Double.NaN;
    if (fl == w) found = l;
    else if (fh == w) found = h;
    else if (fl < w && w < fh || fh < w && w < fl) {
      boolean half = false;
      boolean hit = false;
      for (int k = 0; k < 40 && !hit; k++) {
        double m = l + (h - l) / 2;
        double along = l + (w - fl) * (h - l) / (fh - fl);
        if (half && along > l && along < h) m = along;
        if (!(m > l && m < h)) break;
        double fm = f.applyAsDouble(m);
        told++;
        double wide = h - l;
        if (fm == w) {
          hit = true;
          found = m;
        } else if (fm < w == fl < w) {
          l = m;
          fl = fm;
        } else {
          h = m;
          fh = fm;
        }
        half = h - l <= wide / 2;
      }
      if (!hit) found = Math.abs(fh - w) < Math.abs(fl - w) ? h : l;
    }
    String name = "19: <" + text + "> " + low + " .. " + high + ", " + want;
    if (Double.isNaN(found)) {
      Check.due(name, x.seek(0, 1, low, high, want, 0), -1);
      Check.due(name, x.seek(0, 1, low, high, want, 1), -1);
    } else {
      Check.dueNumber(name, x.seek(0, 1, low, high, want, 0), found);
      Check.dueNumber(name, x.seek(0, 1, low, high, want, 1), f.applyAsDouble(found));
    }
    Check.due(name, x.seek(0, 1, low, high, want, 2), told);
  }

  private static void soughtAtBounds() {
    int[][] brackets = {{0, 80}, {-80, 80}, {1, 2}, {-80000, 80000}, {79999, 80000}, {-80000, -79999}, {-3, 1000}};
    for (int[] b : brackets) {
      for (int want : new int[] {-80000, -17, -8, -1, 0, 1, 7, 8, 17, 1000, 79999, 80000}) {
        sought("a", a -> a, b[0], b[1], want);
        sought("3-a", a -> 3 - a, b[0], b[1], want);
        sought("a*a*a", a -> a * a * a, b[0] / 100, Math.max(b[0] / 100 + 1, b[1] / 100), want);
        sought("a*a-2", a -> a * a - 2, b[0], b[1], want);
        sought("1/(a*a+1)", a -> 1 / (a * a + 1), b[0], b[1], want);
        sought("a/7+0.01", a -> a / 7 + 0.01, b[0], b[1], want);
        sought("pick(a<0.3,-1,5)", a -> a < 0.3 ? -1 : 5, b[0], b[1], want);
        sought("pick(a<9999.9,-2,2)", a -> a < 9999.9 ? -2 : 2, b[0], b[1], want);
        sought("pick(a< -9999.9,-2,2)", a -> a < -9999.9 ? -2 : 2, b[0], b[1], want);
        // So far apart that what lies along the line is the low end again, or the high end.
        sought("pick(a<0.7,-0.001,9999*9999*9999)", a -> a < 0.7 ? -0.001 : 9999.0 * 9999 * 9999, b[0], b[1], want);
        sought("pick(a<0.7,-9999*9999*9999,0.001)", a -> a < 0.7 ? -9999.0 * 9999 * 9999 : 0.001, b[0], b[1], want);
        sought("a%3", a -> a % 3 == 0 ? 0 : a % 3, b[0], b[1], want);
      }
    }
    // "40 times at most": 42 are told with those at the ends; "it ends": before that, where no number lies between.
    WhatIfSheet x = new WhatIfSheet();
    Check.tell(x, 1, "pick(a<0.3,0,1)");
    Check.due("19: all 40", x.seek(0, 1, -80000, 80000, 4, 2), 42);
    Check.tell(x, 1, "pick(a<9999.9,0,1)");
    Check.due("19: none lies between", x.seek(0, 1, 79999, 80000, 4, 2), 38);
    Check.due("19: the highest below", x.seek(0, 1, 79999, 80000, 4, 1), 0);
    Check.dueNumber("19: the highest below", x.seek(0, 1, 79999, 80000, 4, 0), Math.nextDown(9999.9));
  }

  // ---- DRAWN

  /** Each number that can be drawn, and what is WANT or more. */
  private static void drawnAtBounds() {
    WhatIfSheet x = new WhatIfSheet();
    boolean least = false;
    boolean most = false;
    for (int seed = 0; seed < 4000; seed++) {
      int z = seed * 1103515245 + 12345;
      int eighths = (z >>> 9) % 401 - 200;
      least |= eighths == -200;
      most |= eighths == 200;
      if (eighths > -198 && eighths < 198 && seed > 50) continue;
      Check.due("21: as wanted " + eighths, x.chance(0, seed, 1, eighths, 0), 1);
      Check.due("21: one more " + eighths, x.chance(0, seed, 1, eighths + 1, 0), 0);
      Check.due("21: none of it " + eighths, x.chance(0, seed, 1, eighths + 1, 1), 1);
    }
    Check.due("21: the least and the most were drawn", least && most ? 1 : 0, 1);
    // Seeds that are each 1 more go round behind the last int.
    int hits = 0;
    for (int k = 0; k < 20; k++) {
      int z = (Integer.MAX_VALUE - 4 + k) * 1103515245 + 12345;
      if ((z >>> 9) % 401 - 200 >= 0) hits++;
    }
    int above = x.chance(0, Integer.MAX_VALUE - 4, 20, 0, 0);
    int below = x.chance(0, Integer.MAX_VALUE - 4, 20, 0, 1);
    Check.due("21: round", above * 20, hits * below);
  }

  /** "An object is used for at most 512 calls": the 512th is answered as any. */
  private static void lastCall() {
    WhatIfSheet x = new WhatIfSheet();
    x.feed(5, 97, 43, 98, 42, 50);
    x.formula(2);
    x.table(0, 2, 0, -1);
    x.axis(0, 0, 0, 8, 8);
    for (int k = 5; k <= 510; k++) Check.due("call " + k, x.set(1, k), 1);
    Check.dueNumber("call 511", x.would(0, 8, 2), 1 + 2 * 510 / 8.0);
    Check.dueNumber("call 512", x.adds(0, 3), 7 + 2 * 510 / 8.0);
  }

  /** The 64 bits of numbers about each power of two. */
  private static void bits() {
    WhatIfSheet x = new WhatIfSheet();
    x.row(0, 3, 1);
    x.row(1, 1, 1);
    for (int power = 0; power < 32; power++) {
      for (int d = -1; d <= 1; d++) {
        int v = (1 << power) + d;
        x.put(0, 0, v);
        Check.dueNumber("29: bits of " + v + " eighths", x.item(0, 0), v / 8.0);
        x.put(1, 0, v);
        Check.dueNumber("29: bits of " + v, x.item(1, 0), v);
      }
    }
  }

  public static void main(String[] args) {
    firstAndLastCell();
    firstAndLastTable();
    firstAndLastRow();
    leastAndMost();
    keptAtBounds();
    errorsAreNotKept();
    farNumbers();
    byNothing();
    firstOfErrors();
    partsWithin();
    formulasAnew();
    eachCellCleared();
    failingAtBounds();
    laidAndDropped();
    axesKept();
    kindsTold();
    eachByte();
    words();
    numbers();
    fourOpen();
    fullTape();
    soughtAtBounds();
    drawnAtBounds();
    bits();
    lastCall();
    Check.end();
  }
}
