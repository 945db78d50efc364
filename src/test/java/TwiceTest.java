/**
 * Promise 6 where the answer can be counted out: two cubics in y whose roots are whole numbers (some of them twice or three times
 * there, some common to both), and each pair of signs. Their signs at whole numbers and half way between tell what is so.
 */
public final class TwiceTest {
  private static final int MOST_ROOT = 3;
  private static final String[] SIGNS = {"<", "=", ">"};
  private static final Check CHECK = new Check();

  public static void main(String[] args) {
    int[][] triples = new int[20][];
    int count = 0;
    for (int a = 0; a <= MOST_ROOT; a++) {
      for (int b = a; b <= MOST_ROOT; b++) {
        for (int c = b; c <= MOST_ROOT; c++) triples[count++] = new int[] {a, b, c};
      }
    }
    for (int[] first : triples) {
      for (int[] second : triples) pair(first, second);
    }
    CHECK.finish();
  }

  private static void pair(int[] first, int[] second) {
    CellDecide cells = new CellDecide();
    for (int s = -1; s <= 1; s++) {
      for (int t = -1; t <= 1; t++) {
        int want = isSomewhere(first, s, second, t) ? 1 : 0;
        decide(cells, "some y. " + both(first, s, second, t, ""), want);
        decide(cells, "all x. some y. " + both(first, s, second, t, "-x"), want);
        decide(cells, "some x. x^2=2 and (some y. " + both(first, s, second, t, "+x") + ")", want);
      }
    }
  }

  private static void decide(CellDecide cells, String text, int want) {
    Check.read(cells, text);
    CHECK.due(text, cells.decide(), want);
  }

  private static String both(int[] first, int s, int[] second, int t, String move) {
    return cubic(first, move) + SIGNS[s + 1] + "0 and -" + cubic(second, move) + SIGNS[1 - t] + "0";
  }

  private static String cubic(int[] roots, String move) {
    return "[y" + move + "-" + roots[0] + "]*[y" + move + "-" + roots[1] + "]*[y" + move + "-" + roots[2] + "]";
  }

  private static boolean isSomewhere(int[] first, int s, int[] second, int t) {
    for (int twice = -1; twice <= 2 * MOST_ROOT + 1; twice++) {
      if (sign(first, twice) == s && sign(second, twice) == t) return true;
    }
    return false;
  }

  private static int sign(int[] roots, int twice) {
    return Integer.signum((twice - 2 * roots[0]) * (twice - 2 * roots[1]) * (twice - 2 * roots[2]));
  }
}
