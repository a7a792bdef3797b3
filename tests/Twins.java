import java.util.ArrayList;
import java.util.List;

/** Two sheets made alike, one of them behind one more call: what that call changed is seen by the other. */
final class Twins {
  interface Maker {
    WhatIfSheet make();
  }

  interface Call {
    long on(WhatIfSheet x);
  }

  /** All that can be seen of one side of a sheet, in some 250 calls at most. */
  private interface View {
    List<Long> of(WhatIfSheet x);
  }

  private Twins() {}

  /** The call is refused so, and changes nothing. */
  static void refused(String name, Maker maker, Call call, long want) {
    Check.due(name, call.on(maker.make()), want);
    changesNothing(name, maker, call);
  }

  /** The call answers so, and changes nothing. */
  static void asked(String name, Maker maker, Call call, long want) {
    refused(name, maker, call, want);
  }

  static void changesNothing(String name, Maker maker, Call call) {
    compare(name, maker, call, "cells", Twins::cells);
    compare(name, maker, call, "tape", Twins::tape);
    butTape(name, maker, call);
  }

  /** What a call that empties the tape leaves as it was. */
  static void butTape(String name, Maker maker, Call call) {
    compare(name, maker, call, "cells", Twins::cells);
    compare(name, maker, call, "tables", Twins::tables);
    for (int t = 0; t < 6; t++) {
      int table = t;
      compare(name, maker, call, "cases of " + t, x -> cases(x, table));
    }
    butRow(name, maker, call, -1);
    compare(name, maker, call, "cells of the image", Twins::cellsOfImage);
    compare(name, maker, call, "tables of the image", Twins::tablesOfImage);
  }

  /** No row but this one becomes another. */
  static void butRow(String name, Maker maker, Call call, int but) {
    for (int r = 0; r < 4; r++) {
      int row = r;
      if (r != but) compare(name, maker, call, "row " + r, x -> row(x, row));
    }
  }

  static void imageStays(String name, Maker maker, Call call) {
    compare(name, maker, call, "cells of the image", Twins::cellsOfImage);
    compare(name, maker, call, "tables of the image", Twins::tablesOfImage);
  }

  static void tapeStays(String name, Maker maker, Call call) {
    compare(name, maker, call, "tape", Twins::tape);
  }

  static void cellsStay(String name, Maker maker, Call call) {
    compare(name, maker, call, "cells", Twins::cells);
  }

  static void tablesStay(String name, Maker maker, Call call) {
    compare(name, maker, call, "tables", Twins::tables);
    for (int t = 0; t < 6; t++) {
      int table = t;
      compare(name, maker, call, "cases of " + t, x -> cases(x, table));
    }
  }

  private static void compare(String name, Maker maker, Call call, String what, View view) {
    WhatIfSheet without = maker.make();
    WhatIfSheet with = maker.make();
    call.on(with);
    List<Long> due = view.of(without);
    List<Long> got = view.of(with);
    int first = -1;
    for (int k = 0; k < due.size() && first < 0; k++) if (!due.get(k).equals(got.get(k))) first = k;
    Check.due(name + " leaves the " + what + " as they were, first unlike", first, -1);
  }

  private static List<Long> cells(WhatIfSheet x) {
    List<Long> seen = new ArrayList<>();
    for (int c = 0; c < 24; c++) {
      for (int what = 0; what < 8; what++) seen.add((long) x.told(c, what));
      seen.add(x.value(c));
    }
    for (int what = 0; what < 4; what++) if (what != 3) seen.add((long) x.count(what));
    return seen;
  }

  private static List<Long> tables(WhatIfSheet x) {
    List<Long> seen = new ArrayList<>();
    for (int t = 0; t < 6; t++) {
      for (int what = 0; what < 9; what++) seen.add((long) x.asks(t, what));
      for (int what = 0; what < 5; what++) seen.add(x.adds(t, what));
    }
    return seen;
  }

  private static List<Long> cases(WhatIfSheet x, int t) {
    List<Long> seen = new ArrayList<>();
    for (int i = 0; i < x.asks(t, 5); i++) {
      for (int j = 0; j < Math.max(1, x.asks(t, 6)); j++) {
        seen.add(x.at(t, i, j));
        seen.add((long) x.blame(t, i, j));
      }
    }
    return seen;
  }

  private static List<Long> row(WhatIfSheet x, int row) {
    List<Long> seen = new ArrayList<>();
    for (int i = 0; i < 65; i++) seen.add(x.item(row, i));
    // The sorts differ by what becomes of these.
    x.put(row, 0, 1);
    seen.add(x.item(row, 0));
    x.put(row, 0, 134217731);
    seen.add(x.item(row, 0));
    return seen;
  }

  private static List<Long> tape(WhatIfSheet x) {
    List<Long> seen = new ArrayList<>();
    seen.add((long) x.count(3));
    seen.add((long) x.formula(22));
    seen.add(x.value(22));
    for (int what = 0; what < 8; what++) seen.add((long) x.told(22, what));
    return seen;
  }

  private static List<Long> cellsOfImage(WhatIfSheet x) {
    List<Long> seen = new ArrayList<>();
    seen.add((long) x.back());
    seen.addAll(cells(x));
    return seen;
  }

  private static List<Long> tablesOfImage(WhatIfSheet x) {
    List<Long> seen = new ArrayList<>();
    seen.add((long) x.back());
    seen.addAll(tables(x));
    return seen;
  }
}
