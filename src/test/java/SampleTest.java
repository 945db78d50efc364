import java.math.BigDecimal;
import java.math.BigInteger;
import java.math.RoundingMode;

/**
 * Promises 7 and 8 for texts made by chance: a number is in the set that is told just if the statement holds for it. That is asked
 * on a net of fractions, on ends that are fractions, and close to every end, on both sides.
 */
public final class SampleTest {
  private static final int STATEMENTS = 4000, MOST_BYTES = 600;
  private static final Check CHECK = new Check();

  public static void main(String[] args) {
    Chance chance = new Chance(7);
    for (int i = 0; i < STATEMENTS; i++) {
      String text = chance.quantifier() + "y. " + chance.inside();
      String other = chance.quantifier() + "y. " + chance.inside();
      statement(chance, chance.pick(4) == 0 ? "(" + text + ") -> (" + other + ")" : text);
    }
    CHECK.finish();
  }

  private static void statement(Chance chance, String text) {
    CellDecide cells = new CellDecide();
    if (text.length() > MOST_BYTES || Check.read(cells, text) != 1) return;
    End[] ends = new End[2 * cells.solve()];
    for (int i = 0; i < ends.length; i++) ends[i] = new End(cells, i / 2, i % 2);
    for (int up = -12; up <= 12; up++) ask(text, ends, cells, up, 1);
    for (int i = 0; i < 15; i++) {
      int low = 2 + chance.pick(9);
      ask(text, ends, cells, chance.pick(40 * low) - 20 * low, low);
    }
    for (End end : ends) {
      if (end.kind != 0) aroundEnd(text, ends, cells, end);
    }
  }

  private static void aroundEnd(String text, End[] ends, CellDecide cells, End end) {
    BigInteger value = end.value.movePointRight(3).setScale(0, RoundingMode.FLOOR).toBigInteger();
    if (value.bitLength() > 19) return;
    for (int step = -1; step <= 2; step++) ask(text, ends, cells, value.intValueExact() + step, 1000);
    if (end.line == null || end.line[0].bitLength() > 9 || end.line[1].bitLength() > 19) return;
    ask(text, ends, cells, -end.line[1].intValueExact(), end.line[0].intValueExact());
  }

  private static void ask(String text, End[] ends, CellDecide cells, int up, int low) {
    CHECK.due(text + " holds for " + up + "/" + low, cells.holds(up, low, 0, 1), isIn(ends, up, low) ? 1 : 0);
  }

  private static boolean isIn(End[] ends, int up, int low) {
    for (int i = 0; i < ends.length; i += 2) {
      End lower = ends[i], upper = ends[i + 1];
      boolean above = lower.kind == 0 || lower.compare(up, low) >= (lower.kind == 2 ? 0 : 1);
      boolean below = upper.kind == 0 || upper.compare(up, low) <= (upper.kind == 2 ? 0 : -1);
      if (above && below) return true;
    }
    return false;
  }

  /** An end as it was told: its kind, 40 digits of it, and, if it is a fraction, the two coefficients of a*t+b. */
  private static final class End {
    private final int kind;
    private final BigDecimal value;
    private final BigInteger[] line;

    End(CellDecide cells, int i, int end) {
      kind = cells.interval(i, end);
      value = kind == 0 ? null : new BigDecimal(Check.written(cells, cells.write(i, end, 40)));
      line = cells.interval(i, 2 + 2 * end) == 1 ? lineOf(Check.written(cells, cells.writeLeast(i, end))) : null;
    }

    private static BigInteger[] lineOf(String text) {
      int t = text.indexOf('t');
      String a = text.substring(0, t).replace("*", ""), b = text.substring(t + 1).replace("+", "");
      return new BigInteger[] {a.isEmpty() ? BigInteger.ONE : new BigInteger(a), b.isEmpty() ? BigInteger.ZERO : new BigInteger(b)};
    }

    /** Whether up / low is below the end, at it or above. */
    int compare(int up, int low) {
      if (line != null) return line[0].multiply(BigInteger.valueOf(up)).add(line[1].multiply(BigInteger.valueOf(low))).signum();
      return BigDecimal.valueOf(up).compareTo(value.multiply(BigDecimal.valueOf(low))) > 0 ? 1 : -1;
    }
  }
}
