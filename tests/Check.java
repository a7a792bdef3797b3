/** Counts the answers that are not due and ends a test. */
final class Check {
  private static int wrong = 0;
  private static int seen = 0;

  private Check() {}

  static void due(String call, long got, long want) {
    seen++;
    if (got == want) return;
    wrong++;
    if (wrong <= 40) System.out.println(call + " answered " + got + ", due is " + want);
  }

  static void dueNumber(String call, long got, double want) {
    due(call + " (" + Double.longBitsToDouble(got) + ")", got, Double.doubleToRawLongBits(want));
  }

  /** Puts a whole text on the tape. */
  static void type(WhatIfSheet x, String text) {
    for (int k = 0; k < text.length(); k += 5) {
      int n = Math.min(5, text.length() - k);
      int[] b = new int[5];
      for (int i = 0; i < n; i++) b[i] = text.charAt(k + i);
      x.feed(n, b[0], b[1], b[2], b[3], b[4]);
    }
  }

  /** Types a formula for a cell: what formula() answers. */
  static int tell(WhatIfSheet x, int cell, String text) {
    type(x, text);
    return x.formula(cell);
  }

  static void end() {
    System.out.println(wrong == 0 ? seen + " answers are as due" : wrong + " of " + seen + " answers are not as due");
    if (wrong != 0 || seen == 0) System.exit(1);
  }
}
