/** Promises 27 to 30: row, put, item, copy. */
public final class RowsTest {
  private static void row() {
    WhatIfSheet x = new WhatIfSheet();
    for (int sort = 0; sort < 4; sort++) {
      Check.due("27: sort " + sort, x.row(sort, sort, 64), 1);
      for (int i = 0; i < 64; i++) Check.due("27: all 0", x.item(sort, i), 0);
      Check.due("27: no more", x.item(sort, 64), -12);
      x.put(sort, 3, 80);
      Check.due("27: anew", x.row(sort, sort, 5), 1);
      Check.due("27: all 0 again", x.item(sort, 3), 0);
      Check.due("27: fewer", x.item(sort, 5), -12);
    }
    Check.due("27: none", x.row(0, 3, 0), 1);
    Check.due("27: none", x.item(0, 0), -12);
    Check.due("27: too many", x.row(0, 3, 65), -2);
    Check.due("27: too many", x.row(0, 3, Integer.MAX_VALUE), -2);
    Check.due("27: below 0", x.row(0, 3, -1), -14);
    Check.due("27: below 0", x.row(0, 0, Integer.MIN_VALUE), -14);
    Check.due("27: no sort", x.row(1, 4, 1), -2);
    Check.due("27: no sort", x.row(1, -2, 1), -2);
    Check.due("27: no sort ahead of below", x.row(1, 4, -1), -2);
    Check.due("27: no row", x.row(4, 0, 1), -2);
    Check.due("27: no row", x.row(-1, 0, -1), -2);
    Check.due("27: changes nothing", x.item(1, 4), 0);
    Check.due("27: missing", x.row(1, -1, 65), 1);
    Check.due("27: missing", x.item(1, 0), -11);
    Check.due("27: missing again", x.row(1, -1, -7), 1);
  }

  private static void put() {
    WhatIfSheet x = new WhatIfSheet();
    for (int sort = 0; sort < 4; sort++) x.row(sort, sort, 3);
    int[] numbers = {0, 1, -1, 7, 8, 127, 128, 255, 256, -128, -129, 300, 16777217, 134217729, -134217729,
        Integer.MAX_VALUE, Integer.MIN_VALUE, 2147483583};
    for (int v : numbers) {
      for (int sort = 0; sort < 4; sort++) Check.due("28: " + v, x.put(sort, 1, v), 1);
      Check.dueNumber("28: a byte of " + v, x.item(0, 1), (byte) v);
      Check.dueNumber("28: an int of " + v, x.item(1, 1), v);
      Check.dueNumber("28: a float of " + v, x.item(2, 1), (float) (v / 8.0));
      Check.dueNumber("28: a double of " + v, x.item(3, 1), v / 8.0);
    }
    Check.due("28: others stay", x.item(3, 0), 0);
    Check.due("28: others stay", x.item(3, 2), 0);
    Check.due("28: outside", x.put(3, 3, 1), -12);
    Check.due("28: outside", x.put(3, -1, 1), -12);
    Check.due("28: outside", x.put(3, Integer.MAX_VALUE, 1), -12);
    Check.due("28: outside", x.put(3, Integer.MIN_VALUE, 1), -12);
    x.row(3, -1, 0);
    Check.due("28: missing", x.put(3, 0, 1), -11);
    Check.due("28: no row", x.put(4, 0, 1), -2);
    Check.due("28: no row", x.put(-1, 0, 1), -2);
  }

  private static void item() {
    WhatIfSheet x = new WhatIfSheet();
    Check.tell(x, 4, "1/a");
    x.table(0, 4, 0, -1);
    x.film(0, 0);
    Check.due("29: failed", x.item(0, 0), -1);
    x.put(0, 0, 12);
    Check.dueNumber("29: no more failed", x.item(0, 0), 1.5);
    Check.due("29: no row", x.item(4, 0), -2);
    Check.due("29: no row", x.item(-1, 0), -2);
    Check.due("29: missing", x.item(1, -1), -11);
    Check.due("29: outside", x.item(0, 1), -12);
    Check.due("29: outside", x.item(0, -1), -12);
    x.film(0, 0);
    x.row(0, 3, 1);
    Check.due("29: anew", x.item(0, 0), 0);
  }

  private static void copy() {
    WhatIfSheet x = new WhatIfSheet();
    x.row(0, 1, 5);
    x.row(1, 1, 4);
    for (int i = 0; i < 5; i++) x.put(0, i, 10 + i);
    Check.due("30: copy", x.copy(0, 1, 1, 2, 2), 2);
    int[] due = {0, 0, 11, 12};
    for (int i = 0; i < 4; i++) Check.dueNumber("30: copied " + i, x.item(1, i), due[i]);
    Check.due("30: on itself", x.copy(0, 0, 0, 1, 4), 4);
    int[] shifted = {10, 10, 11, 12, 13};
    for (int i = 0; i < 5; i++) Check.dueNumber("30: as they were " + i, x.item(0, i), shifted[i]);
    Check.due("30: on itself, back", x.copy(0, 2, 0, 0, 3), 3);
    int[] backed = {11, 12, 13, 12, 13};
    for (int i = 0; i < 5; i++) Check.dueNumber("30: as they were " + i, x.item(0, i), backed[i]);
    Check.due("30: none", x.copy(0, 5, 1, 4, 0), 0);
    Check.due("30: none from outside", x.copy(0, 6, 1, 4, 0), -12);
    Check.due("30: none to outside", x.copy(0, 5, 1, 5, 0), -12);
    Check.due("30: below 0", x.copy(0, 0, 1, 0, -1), -12);
    Check.due("30: below 0", x.copy(0, 0, 1, 0, Integer.MIN_VALUE), -12);
    Check.due("30: too many", x.copy(0, 0, 1, 0, 5), -12);
    Check.due("30: too many", x.copy(1, 0, 0, 0, 5), -12);
    Check.due("30: too many", x.copy(0, 3, 1, 0, 3), -12);
    Check.due("30: too many", x.copy(0, 0, 1, 2, 3), -12);
    Check.due("30: far outside", x.copy(0, Integer.MAX_VALUE, 1, 0, 2), -12);
    Check.due("30: far outside", x.copy(0, 0, 1, Integer.MAX_VALUE, 2), -12);
    Check.due("30: far too many", x.copy(0, 2, 1, 2, Integer.MAX_VALUE), -12);
    Check.due("30: ahead", x.copy(0, -1, 1, 0, 1), -12);
    Check.due("30: ahead", x.copy(0, 0, 1, -1, 1), -12);
    Check.due("30: missing", x.copy(0, 0, 2, 0, 1), -11);
    Check.due("30: missing", x.copy(2, 0, 0, 0, 1), -11);
    Check.due("30: missing ahead of outside", x.copy(2, 0, 0, 0, -1), -11);
    x.row(2, 3, 4);
    Check.due("30: unlike", x.copy(0, 0, 2, 0, 1), -13);
    Check.due("30: unlike ahead of outside", x.copy(2, 9, 0, 0, 1), -13);
    Check.due("30: no row", x.copy(4, 0, 0, 0, 1), -2);
    Check.due("30: no row", x.copy(0, 0, 4, 0, 1), -2);
    Check.due("30: no row", x.copy(-1, 0, 0, 0, 1), -2);
    Check.due("30: no row", x.copy(0, 0, -1, 0, 1), -2);
    for (int i = 0; i < 5; i++) Check.dueNumber("30: changes nothing " + i, x.item(0, i), backed[i]);
    Check.tell(x, 4, "1/a");
    x.table(0, 4, 0, -1);
    x.axis(0, 0, 0, 8, 2);
    x.film(0, 3);
    Check.due("30: failed ones too", x.copy(3, 0, 2, 1, 2), 2);
    Check.due("30: failed ones too", x.item(2, 1), -1);
    Check.dueNumber("30: failed ones too", x.item(2, 2), 1);
    Check.due("30: over a failed one", x.copy(2, 2, 2, 1, 1), 1);
    Check.dueNumber("30: over a failed one", x.item(2, 1), 1);
  }

  public static void main(String[] args) {
    row();
    put();
    item();
    copy();
    Check.end();
  }
}
