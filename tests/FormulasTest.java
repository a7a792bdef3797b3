/** Promises 9 and 10, and what a FORMULA is: feed, formula. */
public final class FormulasTest {
  private static void feed() {
    WhatIfSheet x = new WhatIfSheet();
    Check.due("9: one", x.feed(1, 97, 0, 0, 0, 0), 1);
    Check.due("9: three", x.feed(3, 43, 98, 42, 0, 0), 4);
    Check.due("9: two", x.feed(2, 50, 43, 0, 0, 0), 6);
    Check.due("9: four", x.feed(4, 99, 45, 49, 43, 7), 10);
    Check.due("9: five", x.feed(5, 52, 32, 10, 43, 49), 15);
    Check.due("9: none", x.feed(0, 0, 0, 0, 0, 0), -2);
    Check.due("9: six", x.feed(6, 0, 0, 0, 0, 0), -2);
    for (int k = 0; k < 5; k++) {
      for (int bad : new int[] {-1, 256, Integer.MIN_VALUE, Integer.MAX_VALUE}) {
        int[] b = new int[5];
        b[k] = bad;
        Check.due("9: no byte " + k, x.feed(1, b[0], b[1], b[2], b[3], b[4]), -2);
      }
    }
    Check.due("9: on the tape", x.count(3), 15);
    x.set(0, 8);
    x.set(1, 16);
    x.set(2, 24);
    Check.due("9: as fed", x.formula(3), 1);
    Check.dueNumber("9: as fed", x.value(3), 1 + 2 * 2 + 3 - 1 + 4 + 1);
    Check.due("9: empty then", x.count(3), 0);
    for (int k = 1; k <= 19; k++) x.feed(5, 32, 32, 32, 32, 32);
    Check.due("9: no room for two", x.feed(2, 97, 97, 97, 97, 97), -4);
    Check.due("9: bad ahead of full", x.feed(2, 97, 97, 97, 97, 256), -2);
    Check.due("9: stays", x.count(3), 95);
    Check.due("9: the last", x.feed(1, 97, 255, 255, 255, 255), 96);
    Check.due("9: full", x.feed(1, 97, 0, 0, 0, 0), -4);
    Check.due("9: all read", x.formula(4), 1);
    Check.dueNumber("9: all read", x.value(4), 1);
  }

  private static WhatIfSheet sheet() {
    WhatIfSheet x = new WhatIfSheet();
    x.set(0, 8);
    x.set(1, 20);
    x.set(2, -24);
    x.set(3, 0);
    return x;
  }

  private static void tells(String text, double want) {
    WhatIfSheet x = sheet();
    Check.due("10: <" + text + ">", Check.tell(x, 10, text), 1);
    Check.dueNumber("10: value of <" + text + ">", x.value(10), want);
  }

  private static void errs(String text, int error, int blame) {
    WhatIfSheet x = sheet();
    Check.tell(x, 22, "1/0");
    Check.tell(x, 23, "9999*9999*9999*9999");
    Check.due("10: <" + text + ">", Check.tell(x, 10, text), 1);
    Check.due("10: error of <" + text + ">", x.value(10), -20 - error);
    Check.due("10: error of <" + text + ">", x.told(10, 5), error);
    Check.due("10: blame of <" + text + ">", x.told(10, 6), blame);
  }

  private static void faulty(String text, int place) {
    WhatIfSheet x = sheet();
    Check.tell(x, 10, "a+41");
    Check.due("10: fault of <" + text + ">", Check.tell(x, 10, text), -100 - place);
    Check.due("10: no tape behind <" + text + ">", x.count(3), 0);
    Check.dueNumber("10: stays behind <" + text + ">", x.value(10), 42);
  }

  private static void values() {
    tells("a", 1);
    tells(" a\n", 1);
    tells("9999", 9999);
    tells("9999.999", 9999999 / 1000.0);
    tells("0000.001", 0.001);
    tells("0.1", 0.1);
    tells("0.25", 0.25);
    tells("12.07", 12.07);
    tells("1+2*3", 7);
    tells("(1+2)*3", 9);
    tells("7-2-1", 4);
    tells("8/4/2", 1);
    tells("8/(4/2)", 4);
    tells("2*7%4", 2);
    tells("7%4*2", 6);
    tells("-7%4", -3);
    tells("7%-4", 3);
    tells("-(7%4)", -3);
    tells("7.5%0.1", 7.5 % 0.1);
    tells("1%0.001", 1 % 0.001);
    tells("9999%0.007", 9999 % 0.007);
    tells("3%7", 3);
    tells("7%7", 0);
    tells("-7%7", 0);
    tells("1/3", 1.0 / 3);
    tells("0.1+0.2", 0.1 + 0.2);
    tells("0.1*3", 0.1 * 3);
    tells("1-0.9", 1 - 0.9);
    tells("-a*b", -2.5);
    tells("a--b", 3.5);
    tells("a- - b", 3.5);
    tells("a*-b", -2.5);
    tells("1<2", 1);
    tells("2<1", 0);
    tells("2<2", 0);
    tells("2=2", 1);
    tells("2=1", 0);
    tells("1+1=2*1", 1);
    tells("(1<2)+(2<3)", 2);
    tells("0=-0", 1);
    tells("min(3,2)", 2);
    tells("min(2,3)", 2);
    tells("max(3,2)", 3);
    tells("max(2,3)", 3);
    tells("min(c,a)", -3);
    tells("max(c,a)", 1);
    tells("max(a<b,c)", 1);
    tells("pick(1,2,3)", 2);
    tells("pick(0,2,3)", 3);
    tells("pick(-1,2,3)", 2);
    tells("pick(0.001,2,3)", 2);
    tells("pick(-d,2,3)", 3);
    tells("pick (a<b , b , c) * 2", 5);
    tells("pick(0,1/0,3)", 3);
    tells("pick(1,2,1/0)", 2);
    tells("pick(1,2,x)", 2);
    tells("pick(1,2,sum 0)", 2);
    tells("((((a))))", 1);
    tells("----a", 1);
    tells("-(-(a))", 1);
    tells("(((a)))+(((b)))*((((c))))", -6.5);
    tells("1000*1000", 1000000);
    tells("1000*1000*1000*1000", 1e12);
    tells("-1000*1000*1000*1000", -1e12);
    tells("999.999*999.999*1000*1000", 999.999 * 999.999 * 1000 * 1000);
    tells("a+a+a+a+a+a+a+a+a+a+a+a+a+a+a+a+a+a+a+a+a+a+a+a+a+a+a+a+a+a+a+a+a+a+a+a+a+a+a+a+a+a+a+a+a+a+a+a", 48);
  }

  private static void errors() {
    errs("x", 3, 23);
    errs("f", 1, 5);
    errs("f+w", 1, 5);
    errs("w+f", 2, 22);
    errs("1/0", 2, 10);
    errs("1%0", 2, 10);
    errs("1/d", 2, 10);
    errs("0/0", 2, 10);
    errs("1/-d", 2, 10);
    errs("1/0+f", 2, 10);
    errs("f+1/0", 1, 5);
    errs("1000*1000*1000*1000+1", 3, 10);
    errs("-1000*1000*1000*1000-1", 3, 10);
    errs("1000*1000*1000*1001", 3, 10);
    errs("1000*1000*1000*1000/0.999", 3, 10);
    errs("x-x", 3, 23);
    errs("sum 0", 4, 10);
    errs("mean 1", 4, 10);
    errs("least 2", 4, 10);
    errs("most 3", 4, 10);
    errs("fails 5", 4, 10);
    errs("-f", 1, 5);
    errs("f<w", 1, 5);
    errs("1=w", 2, 22);
    errs("min(f,w)", 1, 5);
    errs("max(1,w)", 2, 22);
    errs("pick(f,1/0,2)", 1, 5);
    errs("pick(w,f,2)", 2, 22);
    errs("pick(1,f,w)", 1, 5);
    errs("pick(0,f,w)", 2, 22);
    errs("pick(1,2,w)+f", 1, 5);
    errs("pick(0,w,2)+1/0", 2, 10);
    errs("(f+1)*(1/0)", 1, 5);
    errs("sum 0+f", 4, 10);
    errs("f+sum 0", 1, 5);
    tells("a=a", 1);
    WhatIfSheet x = sheet();
    Check.tell(x, 4, "1/d");
    Check.tell(x, 5, "e+1");
    Check.tell(x, 6, "f*2+e");
    Check.due("10: blame is where it began", x.told(6, 6), 4);
  }

  private static void faults() {
    faulty("", 0);
    faulty("   ", 3);
    faulty("a+", 2);
    faulty("a+ ", 3);
    faulty("a b", 2);
    faulty("a 1", 2);
    faulty("1 2", 2);
    faulty("a)", 1);
    faulty("(a", 2);
    faulty("()", 1);
    faulty("*a", 0);
    faulty("a**b", 2);
    faulty("a+*b", 2);
    faulty("+a", 0);
    faulty("a<b<c", 3);
    faulty("a=b=c", 3);
    faulty("a<b=c", 3);
    faulty("a<", 2);
    faulty("<a", 0);
    faulty("12345", 0);
    faulty("a+12345", 2);
    faulty("1.2345", 0);
    faulty("1.", 0);
    faulty("1.a", 0);
    faulty("1. 5", 0);
    faulty("1 .5", 2);
    faulty(".5", 0);
    faulty("1.5.5", 3);
    faulty("12345.5", 0);
    faulty("00001", 0);
    faulty("y", 0);
    faulty("z", 0);
    faulty("ab", 0);
    faulty("az", 0);
    faulty("za", 0);
    faulty("b+y", 2);
    faulty("a+suma", 2);
    faulty("pic(1,2,3)", 0);
    faulty("picks(1,2,3)", 0);
    faulty("pick", 4);
    faulty("pick a", 5);
    faulty("pick(1,2)", 8);
    faulty("pick(1,2,3,4)", 10);
    faulty("pick(1)", 6);
    faulty("min(1)", 5);
    faulty("min(1,2,3)", 7);
    faulty("max(,2)", 4);
    faulty("max(1,)", 6);
    faulty("max(1,2", 7);
    faulty("sum", 3);
    faulty("sum a", 4);
    faulty("sum 6", 4);
    faulty("sum 1.0", 4);
    faulty("sum -1", 4);
    faulty("sum(1)", 3);
    faulty("sum sum 1", 4);
    faulty("mean 9999", 5);
    faulty("least 12345", 6);
    faulty("A", 0);
    faulty("a+\t", 2);
    faulty("a\r", 1);
    faulty("a>b", 1);
    faulty("a\u00ff", 1);
    faulty("\0", 0);
    faulty("a,b", 1);
    faulty("(a,b)", 2);
    faulty("(((((a)))))", 4);
    faulty("-----a", 4);
    faulty("(-(-(a)))", 4);
    faulty("((((-a))))", 4);
    faulty("((((1+-a))))", 6);
    faulty("min(1,((((a)))))", 9);
    faulty("((((min(1,2)))))", 7);
    faulty("((((min a))))", 8);
    faulty("pick(1,2,-(-(-a)))", 12);
    faulty("a+((((((", 6);
    faulty("5 5 (((((", 2);
    WhatIfSheet x = sheet();
    Check.due("10: signs alone", Check.tell(x, 10, "-(-(-(-a)))"), -104);
    Check.due("10: four of each kind, closed", Check.tell(x, 10, "((((a))))*((((a))))-----a"), 1);
    Check.due("10: five ahead of a one", Check.tell(x, 10, "((((a))))*((((a))))------a"), -124);
    Check.due("10: a - ends with its one", Check.tell(x, 10, "----a*----b"), 1);
    Check.dueNumber("10: a - ends with its one", x.value(10), 2.5);
    Check.due("10: digits alone name a table", Check.tell(x, 10, "fails 0005"), 1);
    Check.due("10: words and digits part", Check.tell(x, 10, "fails5+a"), 1);
    Check.due("10: a minus between isn't ahead", Check.tell(x, 10, "((((a-b))))"), 1);
  }

  private static void refusals() {
    WhatIfSheet x = sheet();
    Check.type(x, "a+1");
    Check.due("10: no cell", x.formula(24), -2);
    Check.due("10: no cell", x.formula(-1), -2);
    Check.due("10: the tape stays", x.count(3), 3);
    Check.due("10: formula", x.formula(4), 1);
    Check.due("10: it is the formula", x.told(4, 1), 1);
    Check.due("10: itself at once", Check.tell(x, 5, "f+1"), -5);
    Check.due("10: still an input", x.told(5, 1), 0);
    Check.due("10: through another", Check.tell(x, 0, "e"), -5);
    Check.dueNumber("10: keeps its number", x.value(0), 1);
    Check.tell(x, 5, "e");
    Check.tell(x, 6, "f");
    Check.due("10: through others", Check.tell(x, 4, "pick(1,2,g)"), -5);
    Check.due("10: not in a ring", Check.tell(x, 6, "g"), -5);
    Check.due("10: anew", Check.tell(x, 6, "a+e"), 1);
    Check.due("10: anew", x.told(6, 3), 1 | 16 | 64);
    x.table(0, 6, 0, 1);
    Check.due("10: varied", Check.tell(x, 0, "b"), -3);
    Check.due("10: varied, other", Check.tell(x, 1, "c"), -3);
    Check.due("10: fault ahead of state", Check.tell(x, 1, "c c"), -102);
    Check.due("10: state ahead of ring", Check.tell(x, 0, "g"), -3);
    Check.due("10: the tape is empty", x.count(3), 0);
    Check.due("10: a table in a ring", Check.tell(x, 4, "sum 0"), -5);
    Check.due("10: a table in a ring", Check.tell(x, 6, "fails 0"), -5);
    Check.due("10: asks a table", Check.tell(x, 7, "sum 0"), 1);
    x.drop(0);
    Check.due("10: no more varied", Check.tell(x, 1, "c"), 1);
    Check.due("10: no more in a ring", Check.tell(x, 4, "sum 0"), 1);
    Check.due("10: a number goes", Check.tell(x, 2, "4"), 1);
    Check.due("10: numbers", x.count(1), 2);
    x.clear(2);
    Check.due("10: empty behind a formula", x.told(2, 7), 1);
  }

  private static void heavy() {
    WhatIfSheet x = sheet();
    Check.tell(x, 4, "a");
    x.table(0, 4, 0, 1);
    x.axis(0, 0, 0, 8, 8);
    x.axis(0, 1, 0, 8, 8);
    Check.due("10: burden of a table", x.asks(0, 4), 64);
    // 1999 is 31 * 64 + 15, so 31 times and 15 more cells beside the one that asks come to 2000.
    Check.tell(x, 5, "sum 0+sum 0+sum 0+sum 0+sum 0+sum 0+sum 0+sum 0+sum 0+sum 0+sum 0+sum 0");
    Check.tell(x, 6, "f+sum 0+sum 0+sum 0+sum 0+sum 0+sum 0+sum 0+sum 0+sum 0+sum 0+sum 0+sum 0");
    Check.due("10: 24 times", x.told(6, 4), 2 + 24 * 64);
    Check.tell(x, 7, "g+sum 0+sum 0+sum 0+sum 0+sum 0+sum 0+sum 0");
    Check.due("10: 31 times", x.told(7, 4), 3 + 31 * 64);
    Check.due("10: too much", Check.tell(x, 8, "h+sum 0"), -4);
    Check.due("10: no formula", x.told(8, 1), 0);
    Check.due("10: stays empty", x.told(8, 7), 1);
    String[] more = {"h", "i", "j", "k", "l", "m", "n", "o", "p", "q", "r", "s", "t"};
    for (int k = 0; k < 13; k++) Check.due("10: one more", Check.tell(x, 8 + k, more[k]), 1);
    Check.due("10: 2000", x.told(20, 4), 2000);
    Check.due("10: 2001", Check.tell(x, 21, "u"), -4);
    Check.due("10: another's would be too much", Check.tell(x, 8, "h+w"), 1);
    Check.due("10: another's would be too much", Check.tell(x, 22, "1"), -4);
    Check.due("10: through a table", Check.tell(x, 4, "a+v"), 1);
    Check.due("10: through a table", Check.tell(x, 21, "1"), -4);
    Check.due("10: still as it was", x.told(20, 4), 2000);
    Check.due("10: 2000 of another", Check.tell(x, 23, "t-t"), 1);
    WhatIfSheet y = sheet();
    // What is refused stays an input, and a table of that asks for nothing.
    int[] due = {1, -4, 1, 1, -4, 1};
    Check.tell(y, 4, "a");
    for (int t = 0; t < 6; t++) {
      y.table(t, 4 + t, 0, 1);
      y.axis(t, 0, 0, 8, 8);
      y.axis(t, 1, 0, 8, 8);
      int got = Check.tell(y, 5 + t, "sum " + t + "*sum " + t + "*sum " + t);
      Check.due("10: nested " + t, got, due[t]);
    }
  }

  /** The first and the last cell with formulas. */
  private static void ends() {
    WhatIfSheet x = new WhatIfSheet();
    x.set(1, 16);
    x.set(2, 8);
    Check.due("10: a formula of a", Check.tell(x, 0, "b*3"), 1);
    Check.due("10: a formula of x", Check.tell(x, 23, "a+1"), 1);
    Check.dueNumber("10: value of x", x.value(23), 7);
    Check.due("10: ring through a", Check.tell(x, 1, "x"), -5);
    Check.due("10: ring through x", Check.tell(x, 0, "x"), -5);
    Check.due("26: formulas", x.count(0), 2);
    Check.due("5: burden", x.told(23, 4), 2);
    Check.due("5: burden", x.told(0, 4), 1);
    Check.due("5: reads", x.told(23, 2), 2);
    x.table(0, 23, 1, 2);
    x.axis(0, 0, 8, 8, 8);
    x.axis(0, 1, 8, 8, 8);
    Check.due("18: slice", x.asks(0, 2), 1 | 1 << 23);
    Check.due("18: told least", x.asks(0, 3), 16);
    Check.due("18: burden", x.asks(0, 4), 128);
    x.image();
    x.clear(0);
    x.back();
    Check.dueNumber("25: value of x", x.value(23), 7);
    String most = "sum 0+sum 0+sum 0+sum 0+sum 0+sum 0+sum 0+sum 0+sum 0+sum 0+sum 0+sum 0+sum 0+sum 0+sum 0";
    Check.due("10: 15 times 128", Check.tell(x, 22, most), 1);
    Check.due("10: burden", x.told(22, 4), 1921);
    WhatIfSheet y = new WhatIfSheet();
    Check.tell(y, 5, "c");
    y.table(0, 5, 2, 1);
    y.axis(0, 0, 8, 8, 8);
    y.axis(0, 1, 8, 8, 8);
    Check.tell(y, 4, most);
    Check.tell(y, 3, "e+" + most);
    Check.due("10: a alone would be too much", Check.tell(y, 0, "d+sum 0+sum 0"), -4);
    Check.due("10: a alone isn't too much", Check.tell(y, 0, "d+sum 0"), 1);
    Check.due("10: a alone isn't too much", y.told(0, 4), 3 + 31 * 64);
  }

  public static void main(String[] args) {
    feed();
    ends();
    values();
    errors();
    faults();
    refusals();
    heavy();
    Check.end();
  }
}
