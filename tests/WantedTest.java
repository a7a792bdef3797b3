/** Promises 19 to 21: seek, swing, chance. */
public final class WantedTest {
  /** e = a * a - b, b = 2. */
  private static WhatIfSheet sheet() {
    WhatIfSheet x = new WhatIfSheet();
    x.set(1, 16);
    Check.tell(x, 4, "a*a-b");
    return x;
  }

  private static void seek() {
    WhatIfSheet x = sheet();
    Check.dueNumber("19: at low", x.seek(0, 4, 16, 32, 16, 0), 2);
    Check.due("19: at low, two were told", x.seek(0, 4, 16, 32, 16, 2), 2);
    Check.dueNumber("19: at high", x.seek(0, 4, 0, 16, 16, 0), 2);
    Check.dueNumber("19: F at high", x.seek(0, 4, 0, 16, 16, 1), 2);
    Check.due("19: at high, two were told", x.seek(0, 4, 0, 16, 16, 2), 2);
    Check.dueNumber("19: at both it is low", x.seek(0, 4, -16, 16, 16, 0), -2);
    Check.dueNumber("19: in the middle", x.seek(0, 4, 0, 32, 16, 0), 2);
    Check.due("19: in the middle, three were told", x.seek(0, 4, 0, 32, 16, 2), 3);
    for (int part = 0; part < 2; part++) {
      Check.due("19: above both", x.seek(0, 4, 0, 16, 900, part), -1);
      Check.due("19: below both", x.seek(0, 4, 0, 16, -900, part), -1);
      Check.due("19: both on one side", x.seek(0, 4, -24, 16, 0, part), -1);
    }
    Check.due("19: above both, two were told", x.seek(0, 4, 0, 16, 900, 2), 2);
    Check.due("19: changes nothing", x.told(0, 7), 1);
    // A rising line: the middle first, then along the line at once.
    Check.tell(x, 5, "a*3+1");
    Check.dueNumber("19: a line", x.seek(0, 5, 0, 80, 128, 0), 5);
    Check.due("19: a line, the middle", x.seek(0, 5, 0, 80, 128, 2), 3);
    Check.dueNumber("19: a line", x.seek(0, 5, 0, 80, 32, 0), 1);
    Check.due("19: a line, then along it", x.seek(0, 5, 0, 80, 32, 2), 4);
    Check.tell(x, 6, "0-a*3");
    Check.dueNumber("19: a falling line", x.seek(0, 6, 0, 80, -24, 0), 1);
    Check.dueNumber("19: F there", x.seek(0, 6, 0, 80, -24, 1), -3);
    Check.dueNumber("19: an output that it doesn't read, wanted", x.seek(0, 1, 0, 80, 16, 0), 0);
    Check.due("19: an output that it doesn't read", x.seek(0, 1, 0, 80, 17, 0), -1);
    Check.dueNumber("19: the input itself", x.seek(0, 0, 0, 80, 17, 0), 2.125);
    Check.dueNumber("19: most", x.seek(0, 0, -80000, 80000, 80000, 0), 10000);
    Check.dueNumber("19: least", x.seek(0, 0, -80000, 80000, -80000, 0), -10000);
  }

  private static void steps() {
    WhatIfSheet x = new WhatIfSheet();
    Check.tell(x, 4, "pick(a<3,0,1)");
    // A step: of its 40 times each second one goes along the line, and none ever hits.
    double l = 0;
    double h = 10;
    boolean halved = false;
    int told = 2;
    for (int k = 0; k < 40; k++) {
      double m = l + (h - l) / 2;
      double along = l + 0.5 * (h - l) / 1;
      if (halved && along > l && along < h) m = along;
      if (!(m > l && m < h)) break;
      told++;
      double wide = h - l;
      if (m < 3) l = m;
      else h = m;
      halved = h - l <= wide / 2;
    }
    Check.dueNumber("19: a step", x.seek(0, 4, 0, 80, 4, 0), l);
    Check.due("19: F at a step", x.seek(0, 4, 0, 80, 4, 1), 0);
    Check.due("19: told at a step", x.seek(0, 4, 0, 80, 4, 2), told);
    Check.tell(x, 4, "pick(a<3,0,8)");
    Check.dueNumber("19: low is nearer", x.value(4) == -21 ? x.seek(0, 4, 0, 80, 8, 1) : 0, 0);
    Check.dueNumber("19: high is nearer", x.seek(0, 4, 0, 80, 56, 1), 8);
    Check.tell(x, 4, "pick(a<3,-9,-1)");
    Check.dueNumber("19: low is nearer below 0", x.seek(0, 4, 0, 80, -48, 1), -9);
    Check.dueNumber("19: high is nearer below 0", x.seek(0, 4, 0, 80, -32, 1), -1);
    Check.dueNumber("19: both are as near", x.seek(0, 4, 0, 80, -40, 1), -9);
    Check.tell(x, 4, "pick(a<3,9,1)");
    Check.dueNumber("19: low is nearer, falling", x.seek(0, 4, 0, 80, 48, 1), 9);
    Check.dueNumber("19: high is nearer, falling", x.seek(0, 4, 0, 80, 32, 1), 1);
    Check.tell(x, 4, "pick(a<3,-1,6)");
    Check.dueNumber("19: low is nearer, across 0", x.seek(0, 4, 0, 80, 16, 1), -1);
    Check.dueNumber("19: high is nearer, across 0", x.seek(0, 4, 0, 80, 24, 1), 6);
    x.kind(0, 1);
    Check.tell(x, 4, "a");
    Check.dueNumber("19: x isn't kept, F is", x.seek(0, 4, 0, 80, 12, 1), 1);
    Check.tell(x, 5, "1/a");
    x.kind(0, 0);
    Check.due("19: an error at low", x.seek(0, 5, 0, 80, 8, 0), -1);
    Check.due("19: an error at low, one was told", x.seek(0, 5, 0, 80, 8, 2), 1);
    Check.due("19: an error at high", x.seek(0, 5, -80, 0, 8, 0), -1);
    Check.due("19: an error at high, two were told", x.seek(0, 5, -80, 0, 8, 2), 2);
    Check.due("19: an error at high though low is wanted", x.seek(0, 5, -8, 0, -8, 0), -1);
    Check.due("19: an error between", x.seek(0, 5, -80, 80, 0, 1), -1);
    Check.due("19: an error between, three were told", x.seek(0, 5, -80, 80, 0, 2), 3);
  }

  private static void seekRefusals() {
    WhatIfSheet x = sheet();
    Check.due("19: no input", x.seek(24, 4, 0, 8, 0, 0), -2);
    Check.due("19: no input", x.seek(-1, 4, 0, 8, 0, 0), -2);
    Check.due("19: no cell", x.seek(0, 24, 0, 8, 0, 0), -2);
    Check.due("19: no cell", x.seek(0, -1, 0, 8, 0, 0), -2);
    Check.due("19: low is high", x.seek(0, 4, 8, 8, 0, 0), -2);
    Check.due("19: low above high", x.seek(0, 4, 9, 8, 0, 0), -2);
    Check.due("19: low", x.seek(0, 4, -80001, 8, 0, 0), -2);
    Check.due("19: high", x.seek(0, 4, 0, 80001, 0, 0), -2);
    Check.due("19: want", x.seek(0, 4, 0, 8, 80001, 0), -2);
    Check.due("19: want", x.seek(0, 4, 0, 8, -80001, 0), -2);
    Check.due("19: part", x.seek(0, 4, 0, 8, 0, 3), -2);
    Check.due("19: part", x.seek(0, 4, 0, 8, 0, -1), -2);
    Check.due("19: a formula", x.seek(4, 4, 0, 8, 0, 0), -3);
    Check.due("19: bad ahead of state", x.seek(4, 4, 8, 8, 0, 0), -2);
  }

  private static void swing() {
    WhatIfSheet x = new WhatIfSheet();
    Check.tell(x, 4, "a+2*b-3*c+0*d");
    Check.due("20: all are empty", x.swing(4, 8, 0), -1);
    Check.due("20: all are empty", x.swing(4, 8, 1), -1);
    x.set(0, 8);
    Check.due("20: others are empty", x.swing(4, 8, 0), -1);
    x.set(1, 8);
    x.set(2, 8);
    Check.due("20: one is empty", x.swing(4, 8, 0), -1);
    x.set(3, 8);
    Check.due("20: which", x.swing(4, 8, 0), 2);
    Check.dueNumber("20: how far", x.swing(4, 8, 1), 6);
    Check.dueNumber("20: how far by an eighth", x.swing(4, 1, 1), 0.75);
    Check.dueNumber("20: how far by most", x.swing(4, 80000, 1), 60000);
    Check.dueNumber("20: as it was", x.value(2), 1);
    x.kind(2, 5);
    Check.due("20: kept by its kind", x.swing(4, 80000, 0), 1);
    Check.dueNumber("20: kept by its kind", x.swing(4, 80000, 1), 40000);
    x.kind(2, 0);
    Check.tell(x, 5, "a+b-a-b");
    Check.due("20: of like ones the first", x.swing(5, 8, 0), 0);
    Check.due("20: not at all", x.swing(5, 8, 1), 0);
    Check.tell(x, 5, "1/b+a");
    Check.due("20: an error less isn't looked at", x.swing(5, 8, 0), 0);
    Check.dueNumber("20: an error less isn't looked at", x.swing(5, 8, 1), 2);
    x.set(1, -8);
    Check.due("20: an error more isn't looked at", x.swing(5, 8, 0), 0);
    x.set(1, 12);
    Check.dueNumber("20: no error", x.swing(5, 8, 1), 2);
    x.set(1, 9);
    Check.due("20: no error", x.swing(5, 8, 0), 1);
    Check.dueNumber("20: no error", x.swing(5, 8, 1), 1 / 0.125 - 1 / 2.125);
    Check.tell(x, 5, "a*b*b");
    x.set(0, 40);
    x.set(1, 8);
    Check.due("20: the first is as it was for the second", x.swing(5, 8, 0), 1);
    Check.dueNumber("20: the first is as it was for the second", x.swing(5, 8, 1), 20);
    Check.tell(x, 5, "100/b");
    Check.due("20: an error alone, less", x.swing(5, 8, 0), -1);
    x.set(1, -8);
    Check.due("20: an error alone, more", x.swing(5, 8, 0), -1);
    Check.due("20: an input", x.swing(3, 8, 0), 3);
    Check.dueNumber("20: an input", x.swing(3, 8, 1), 2);
    Check.due("20: an empty input", x.swing(9, 8, 0), -1);
    Check.tell(x, 6, "7");
    Check.due("20: reads none", x.swing(6, 8, 0), -1);
    x.table(0, 4, 2, -1);
    Check.tell(x, 7, "sum 0");
    Check.due("20: not what a table varies", x.swing(7, 8, 0), 1);
    Check.due("20: no cell", x.swing(24, 8, 0), -2);
    Check.due("20: no cell", x.swing(-1, 8, 0), -2);
    Check.due("20: d", x.swing(4, 0, 0), -2);
    Check.due("20: d", x.swing(4, 80001, 0), -2);
    Check.due("20: part", x.swing(4, 8, 2), -2);
    Check.due("20: part", x.swing(4, 8, -1), -2);
  }

  private static double[] drawn(int seed, int many) {
    double[] out = new double[many];
    int z = seed;
    for (int k = 0; k < many; k++) {
      z = z * 1103515245 + 12345;
      out[k] = ((z >>> 9) % 401 - 200) / 8.0;
    }
    return out;
  }

  private static void chance() {
    WhatIfSheet x = new WhatIfSheet();
    x.set(3, 8);
    Check.tell(x, 4, "a+d*c");
    for (int seed : new int[] {0, 1, 7, -5, Integer.MAX_VALUE, Integer.MAX_VALUE - 3, Integer.MIN_VALUE, 123456789}) {
      for (int m = 1; m <= 20; m++) {
        int hits = 0;
        for (int k = 0; k < m; k++) {
          double[] n = drawn(seed + k, 3);
          if (n[0] + n[2] * n[1] >= -5) hits++;
        }
        int above = x.chance(4, seed, m, -40, 0);
        int below = x.chance(4, seed, m, -40, 1);
        Check.due("21: seed " + seed + " of " + m, (long) above * m, (long) hits * below);
        for (int f = 2; f <= 20; f++) Check.due("21: lowest terms", above % f == 0 && below % f == 0 ? 1 : 0, 0);
      }
    }
    Check.tell(x, 5, "a+h");
    x.chance(7, 1, 1, 0, 0);
    x.table(0, 4, 2, 3);
    x.axis(0, 1, 80, 0, 1);
    Check.tell(x, 6, "sum 0");
    x.set(0, 40);
    for (int seed = 0; seed < 20; seed++) {
      Check.due("21: what a table varies isn't drawn", x.chance(6, seed, 1, 40, 0), drawn(seed, 1)[0] >= 5 ? 1 : 0);
    }
    Check.due("21: never", x.chance(4, 3, 12, 80000, 0), 0);
    Check.due("21: never", x.chance(4, 3, 12, 80000, 1), 1);
    Check.due("21: always", x.chance(4, 3, 12, -80000, 0), 1);
    Check.due("21: always", x.chance(4, 3, 12, -80000, 1), 1);
    double first = drawn(99, 1)[0];
    Check.due("21: just as wanted", x.chance(0, 99, 1, (int) (first * 8), 0), 1);
    Check.due("21: more is wanted", x.chance(0, 99, 1, (int) (first * 8) + 1, 0), 0);
    Check.dueNumber("21: as it was", x.value(3), 1);
    Check.dueNumber("21: as it was", x.value(0), 5);
    Check.due("21: as it was", x.told(2, 7), 1);
    x.kind(0, 3);
    x.kind(0, 1);
    Check.due("21: kept", x.chance(0, 99, 1, (int) first * 8, 0), 1);
    Check.tell(x, 5, "a/0");
    Check.due("21: errors are none of these", x.chance(5, 1, 5, -80000, 0), 0);
    Check.tell(x, 6, "1");
    Check.due("21: reads none", x.chance(6, 1, 5, 8, 0), 1);
    Check.due("21: no cell", x.chance(24, 1, 5, 0, 0), -2);
    Check.due("21: no cell", x.chance(-1, 1, 5, 0, 0), -2);
    Check.due("21: m", x.chance(4, 1, 0, 0, 0), -2);
    Check.due("21: m", x.chance(4, 1, 21, 0, 0), -2);
    Check.due("21: want", x.chance(4, 1, 5, 80001, 0), -2);
    Check.due("21: want", x.chance(4, 1, 5, -80001, 0), -2);
    Check.due("21: part", x.chance(4, 1, 5, 0, 2), -2);
    Check.due("21: part", x.chance(4, 1, 5, 0, -1), -2);
  }

  public static void main(String[] args) {
    seek();
    steps();
    seekRefusals();
    swing();
    chance();
    Check.end();
  }
}
