import java.util.ArrayList;
import java.util.List;

/** Texts made by chance, the same ones for the same seed; curves often have whole lines in common. */
final class Chance {
  private static final String[] SIGNS = {"<", "<=", "=", ">=", ">", "!="};
  private static final int MOST_LINES = 3;
  private final List<String> lines = new ArrayList<>();
  private long seed;

  Chance(long seed) {
    this.seed = seed;
  }

  int pick(int below) {
    seed = seed * 6364136223846793005L + 1442695040888963407L;
    return (int) ((seed >>> 33) % below);
  }

  private String sum(int degree, int terms) {
    StringBuilder text = new StringBuilder();
    for (int i = 0; i < terms; i++) {
      int x = pick(degree + 1), y = pick(degree + 1 - x);
      text.append(pick(2) == 0 ? "-" : i > 0 ? "+" : "").append(1 + pick(pick(4) == 0 ? 99 : 9));
      if (x > 0) text.append("*x^").append(x);
      if (y > 0) text.append("*y^").append(y);
    }
    return text.toString();
  }

  private static String term(int coefficient, String variable) {
    return coefficient == 0 ? "" : (coefficient < 0 ? "-" : "+") + Math.abs(coefficient) + "*" + variable;
  }

  /** A line, often one that came before. */
  private String line() {
    if (lines.size() > MOST_LINES) lines.clear();
    int x = pick(7) - 3, y = pick(7) - 3, c = pick(9) - 4;
    if (lines.isEmpty() || pick(2) == 0) lines.add("[" + c + term(x, "x") + term(y, "y") + "]");
    return lines.get(pick(lines.size()));
  }

  String curve() {
    switch (pick(5)) {
      case 0: return line() + "*" + line() + "*" + line();
      case 1: return line() + "^2*" + line();
      case 2: return line() + "*[" + sum(2, 1 + pick(3)) + "]";
      case 3: return line() + "^" + (1 + pick(3)) + "-" + line() + "^" + (1 + pick(3));
      default: return sum(2 + pick(2), 1 + pick(4));
    }
  }

  /** Some comparisons, joined. */
  String inside() {
    StringBuilder text = new StringBuilder();
    int comparisons = 1 + pick(3);
    for (int i = 0; i < comparisons; i++) {
      text.append(i == 0 ? "" : pick(2) == 0 ? " and " : " or ").append(pick(4) == 0 ? "not " : "");
      text.append(curve()).append(SIGNS[pick(SIGNS.length)]).append(pick(4) == 0 ? pick(9) : 0);
    }
    return text.toString();
  }

  String quantifier() {
    return pick(2) == 0 ? "some " : "all ";
  }
}
