/** Promises 22 to 26: film, tells, image, back, count. */
public final class ToldTest {
  /** e = a / b + c; a = 1, b = 2, c = 3; table 0 of e by a and b. */
  private static WhatIfSheet sheet() {
    WhatIfSheet x = new WhatIfSheet();
    x.set(0, 8);
    x.set(1, 16);
    x.set(2, 24);
    Check.tell(x, 4, "a/b+c");
    x.table(0, 4, 0, 1);
    x.axis(0, 0, 8, 8, 3);
    x.axis(0, 1, -8, 8, 3);
    return x;
  }

  private static void film() {
    WhatIfSheet x = sheet();
    x.row(2, 0, 64);
    Check.due("22: film", x.film(0, 2), 9);
    for (int i = 0; i < 3; i++) {
      Check.dueNumber("22: by -1", x.item(2, 3 * i), 3 - (i + 1));
      Check.due("22: failed", x.item(2, 3 * i + 1), -1);
      Check.dueNumber("22: by 1", x.item(2, 3 * i + 2), 3 + (i + 1));
    }
    Check.due("22: no more items", x.item(2, 9), -12);
    Check.due("22: of doubles", x.put(2, 1, 1), 1);
    Check.dueNumber("22: of doubles", x.item(2, 1), 0.125);
    x.axis(0, 0, 8, 8, 8);
    x.axis(0, 1, 8, 8, 8);
    Check.due("22: all that there can be", x.film(0, 3), 64);
    Check.dueNumber("22: the last", x.item(3, 63), 4);
    x.set(2, 0);
    Check.dueNumber("22: a film stays", x.item(3, 63), 4);
    Check.due("22: no table", x.film(6, 0), -2);
    Check.due("22: no table", x.film(-1, 0), -2);
    Check.due("22: no row", x.film(0, 4), -2);
    Check.due("22: no row", x.film(0, -1), -2);
    Check.due("22: not laid", x.film(1, 0), -3);
    Check.due("22: bad ahead of state", x.film(1, 4), -2);
    Check.due("22: changes nothing", x.item(0, 0), -11);
    x.axis(0, 0, 8, 8, 1);
    x.axis(0, 1, 8, 8, 1);
    Check.due("22: fewer", x.film(0, 3), 1);
    Check.due("22: fewer", x.item(3, 1), -12);
  }

  private static void tells() {
    WhatIfSheet x = sheet();
    x.film(0, 1);
    Check.due("23: as it is", x.tells(0, 1, 0, 0), -1);
    x.put(1, 8, 8);
    Check.due("23: the last", x.tells(0, 1, 0, 0), 8);
    x.put(1, 4, 0);
    Check.due("23: it fails", x.tells(0, 1, 0, 0), 4);
    x.film(0, 1);
    x.film(0, 2);
    x.copy(2, 1, 1, 2, 1);
    Check.due("23: it doesn't fail", x.tells(0, 1, 0, 0), 2);
    x.put(1, 0, -1);
    Check.due("23: the first", x.tells(0, 1, 0, 0), 0);
    x.film(0, 1);
    Check.due("23: kinds of c", x.tells(0, 1, 2, 1), 63);
    Check.due("23: kinds of e", x.tells(0, 1, 4, 1), 0b110111 | 8);
    Check.due("23: kinds of another", x.tells(0, 1, 20, 1), 63);
    x.set(2, 28);
    x.film(0, 1);
    Check.due("23: kinds of c", x.tells(0, 1, 2, 1), 0b110101);
    Check.due("23: kinds of e", x.tells(0, 1, 4, 1), 0b110101);
    Check.due("23: no number", x.tells(0, 1, 2, 2), 0);
    Check.due("23: no least", x.tells(0, 1, 2, 3), -1);
    Check.due("23: kind is as it was", x.told(2, 0), 0);
    Check.dueNumber("23: number is as it was", x.value(2), 3.5);
    x.kind(4, 1);
    x.film(0, 1);
    Check.due("23: of numbers, as it is kept", x.tells(0, 1, 2, 3), 1003);
    x.axis(0, 0, 4, 0, 1);
    x.axis(0, 1, 8, 0, 1);
    x.film(0, 1);
    Check.dueNumber("23: 4 of 4.0", x.item(1, 0), 4);
    Check.due("23: of numbers", x.tells(0, 1, 2, 2), 1);
    Check.due("23: the least", x.tells(0, 1, 2, 3), 1004);
    Check.due("23: of what a table varies", x.tells(0, 1, 0, 2), 41);
    Check.due("23: of what a table varies", x.tells(0, 1, 1, 3), 980);
    Check.due("23: of another", x.tells(0, 1, 20, 2), 41);
    Check.due("23: another stays empty", x.told(20, 7), 1);
    x.put(1, 0, 0);
    Check.due("23: of numbers, toward 0", x.tells(0, 1, 2, 2), 2);
    Check.due("23: the least, toward 0", x.tells(0, 1, 2, 3), 999);
    x.put(1, 0, 160);
    Check.due("23: the most there is", x.tells(0, 1, 2, 3), 1020);
    x.put(1, 0, 168);
    Check.due("23: beyond", x.tells(0, 1, 2, 3), -1);
    x.put(1, 0, -152);
    Check.due("23: the least there is", x.tells(0, 1, 2, 3), 980);
    Check.due("23: the least there is", x.tells(0, 1, 2, 2), 1);
    x.put(1, 0, -160);
    Check.due("23: beyond", x.tells(0, 1, 2, 3), -1);
    x.set(2, 28);
    x.set(3, 8);
    Check.tell(x, 5, "c+d");
    x.table(1, 5, 20, -1);
    x.film(1, 0);
    x.set(2, 24);
    Check.due("23: the others are as they are now", x.tells(1, 0, 3, 3), -1);
    x.put(0, 0, 40);
    Check.due("23: the others are as they are now", x.tells(1, 0, 3, 3), 1002);
    x.set(2, 16);
    Check.due("23: the others are as they are now", x.tells(1, 0, 3, 3), 1003);
    x.clear(2);
    x.film(0, 1);
    Check.due("23: as long as it is empty", x.tells(0, 1, 2, 0), -1);
    Check.due("23: of an empty one", x.tells(0, 1, 2, 2), 0);
    Check.due("23: of an empty one", x.tells(0, 1, 2, 1), 63);
  }

  private static void tellsRefusals() {
    WhatIfSheet x = sheet();
    x.film(0, 1);
    Check.due("23: no table", x.tells(6, 1, 0, 0), -2);
    Check.due("23: no table", x.tells(-1, 1, 0, 0), -2);
    Check.due("23: no row", x.tells(0, 4, 0, 0), -2);
    Check.due("23: no row", x.tells(0, -1, 0, 0), -2);
    Check.due("23: no cell", x.tells(0, 1, 24, 0), -2);
    Check.due("23: no cell", x.tells(0, 1, -1, 0), -2);
    Check.due("23: what", x.tells(0, 1, 0, 4), -2);
    Check.due("23: what", x.tells(0, 1, 0, -1), -2);
    Check.due("23: not laid", x.tells(1, 0, 0, 0), -3);
    Check.due("23: a formula", x.tells(0, 1, 4, 2), -3);
    Check.due("23: a formula", x.tells(0, 0, 4, 3), -3);
    Check.due("23: a formula doesn't matter", x.tells(0, 1, 4, 0), -1);
    Check.due("23: missing", x.tells(0, 0, 0, 0), -11);
    for (int sort = 0; sort < 3; sort++) {
      x.row(2, sort, 4);
      Check.due("23: sort " + sort, x.tells(0, 2, 0, 0), -13);
    }
    x.row(2, 3, 8);
    Check.due("23: one less", x.tells(0, 2, 0, 0), -2);
    x.row(2, 3, 10);
    Check.due("23: one more", x.tells(0, 2, 0, 0), -2);
    x.row(2, 3, 9);
    Check.due("23: as many", x.tells(0, 2, 0, 0), 0);
  }

  private static void images() {
    WhatIfSheet x = sheet();
    Check.due("25: none", x.back(), -3);
    Check.due("24: image", x.image(), 1);
    x.feed(2, 97, 97, 0, 0, 0);
    x.row(0, 1, 3);
    x.put(0, 0, 5);
    x.kind(2, 1);
    x.set(2, 80);
    x.clear(1);
    Check.due("25: back", x.back(), 1);
    Check.due("25: kind", x.told(2, 0), 0);
    Check.dueNumber("25: number", x.value(2), 3);
    Check.dueNumber("25: number", x.value(1), 2);
    Check.due("25: not the tape", x.count(3), 2);
    Check.dueNumber("25: not the rows", x.item(0, 0), 5);
    x.formula(24);
    x.formula(23);
    Check.tell(x, 5, "e*2+sum 0");
    Check.tell(x, 4, "c");
    Check.tell(x, 0, "7");
    x.axis(0, 0, 0, 8, 1);
    x.axis(0, 1, 0, 8, 1);
    x.table(3, 5, 2, -1);
    Check.due("25: back again", x.back(), 1);
    Check.due("25: formulas", x.count(0), 1);
    Check.due("25: tables", x.count(2), 1);
    Check.due("25: empty", x.told(5, 7), 1);
    Check.dueNumber("25: formula", x.value(4), 3.5);
    Check.due("25: reads", x.told(4, 2), 7);
    Check.due("25: what it varies", x.asks(0, 5) * 10 + x.asks(0, 6), 33);
    Check.dueNumber("25: what it varies", x.at(0, 2, 2), 6);
    Check.due("25: burden", x.asks(0, 4), 9);
    x.clear(4);
    x.drop(0);
    Check.due("24: image anew", x.image(), 0);
    Check.tell(x, 4, "a");
    x.table(0, 4, 0, -1);
    Check.due("25: the last image", x.back(), 0);
    Check.due("25: the last image", x.told(4, 7), 1);
    Check.due("25: the last image", x.drop(0), -3);
    Check.due("25: what was varied may have a formula", Check.tell(x, 0, "b"), 1);
  }

  private static void count() {
    WhatIfSheet x = sheet();
    Check.due("26: formulas", x.count(0), 1);
    Check.due("26: numbers", x.count(1), 3);
    Check.due("26: tables", x.count(2), 1);
    Check.due("26: tape", x.count(3), 0);
    x.feed(3, 1, 2, 3, 4, 5);
    Check.due("26: tape", x.count(3), 3);
    Check.due("26: what", x.count(4), -2);
    Check.due("26: what", x.count(-1), -2);
    x.set(23, 0);
    Check.due("26: numbers", x.count(1), 4);
    x.set(23, 8);
    Check.due("26: numbers", x.count(1), 4);
    x.formula(23);
    Check.tell(x, 23, "1");
    Check.due("26: a formula for a number", x.count(1), 3);
    Check.due("26: a formula for a number", x.count(0), 2);
    x.drop(0);
    Check.due("26: dropped", x.count(2), 0);
  }

  public static void main(String[] args) {
    film();
    tells();
    tellsRefusals();
    images();
    count();
    Check.end();
  }
}
