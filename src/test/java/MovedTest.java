import java.util.ArrayList;
import java.util.Collections;
import java.util.List;

/**
 * Promises 6, 8 and 11 for texts made by chance: what is told stays the same where a bound variable is moved (y becomes y + x,
 * say), where the two variables change their names, and where two of the same 'some' or 'all' change places.
 */
public final class MovedTest {
  private static final int STATEMENTS = 1500, CLOSED = 1000, PAIRS = 1500, MOST_BYTES = 600;
  private static final String[] MOVES = {"[y+x]", "[y-2*x+1]", "[3-y]", "[2*y+x]"};
  private static final Check CHECK = new Check();

  public static void main(String[] args) {
    Chance chance = new Chance(20261116);
    for (int i = 0; i < STATEMENTS; i++) {
      String text = chance.quantifier() + "y. " + chance.inside();
      statement(chance.pick(3) == 0 ? chance.quantifier() + "x. " + text : text);
    }
    for (int i = 0; i < CLOSED; i++) closed(chance.quantifier(), chance.inside());
    for (int i = 0; i < PAIRS; i++) curves(chance.curve() + ";" + chance.curve());
    CHECK.finish();
  }

  private static String moved(String text, String y) {
    return text.replace("y", y).replace("some " + y, "some y").replace("all " + y, "all y");
  }

  /** The variables change their names; no word of the texts holds an x or a y. */
  private static String swapped(String text) {
    return text.replace('x', '?').replace('y', 'x').replace('?', 'y');
  }

  private static void statement(String text) {
    CellDecide cells = new CellDecide();
    int free = Check.read(cells, text);
    if (free < 0) return;
    String told = cells.decide() + " " + Check.set(cells, text);
    for (String move : MOVES) same(text, moved(text, move), free, told);
    same(text, swapped(text), free == 1 ? 2 : free == 2 ? 1 : free, told);
  }

  /** The moved text may be TOO GREAT, or too long; or x comes only where y was, so that another variable is free. */
  private static void same(String text, String other, int free, String told) {
    if (other.length() > MOST_BYTES) return;
    CellDecide cells = new CellDecide();
    if (Check.read(cells, other) == free) CHECK.due(text + " as " + other, cells.decide() + " " + Check.set(cells, other), told);
  }

  private static void closed(String quantifier, String inside) {
    CellDecide cells = new CellDecide();
    String text = quantifier + "x. " + quantifier + "y. " + inside;
    if (Check.read(cells, text) != 0) return;
    int want = cells.decide();
    Check.read(cells, quantifier + "y. " + quantifier + "x. " + inside);
    CHECK.due(text + " from the other axis", cells.decide(), want);
    String other = quantifier + "x. " + quantifier + "y. " + inside.replace("x", "[x+y]");
    if (other.length() > MOST_BYTES || Check.read(cells, other) != 0) return;
    CHECK.due(text + " as " + other, cells.decide(), want);
  }

  private static List<String> coordinates(CellDecide cells, int count, int axis) {
    List<String> all = new ArrayList<>();
    for (int i = 0; i < count; i++) {
      all.add(Check.written(cells, cells.writePointLeast(i, axis)) + "#" + cells.point(i, 2 * axis + 1));
    }
    Collections.sort(all);
    return all;
  }

  private static void curves(String text) {
    CellDecide cells = new CellDecide(), others = new CellDecide();
    int count = Check.meet(cells, text);
    if (cells.fault() != 0) return;
    CHECK.due(text + " with other names", Check.meet(others, swapped(text)), count);
    CHECK.due(text + " x", coordinates(others, count, 1).toString(), coordinates(cells, count, 0).toString());
    CHECK.due(text + " y", coordinates(others, count, 0).toString(), coordinates(cells, count, 1).toString());
    String other = text.replace("x", "[x+y]");
    int same = other.length() > MOST_BYTES ? CellDecide.NONE : Check.meet(others, other);
    if (others.fault() != 0 || same == CellDecide.NONE) return;
    CHECK.due(text + " as " + other, same, count);
    CHECK.due(text + " as " + other + " y", coordinates(others, same, 1).toString(), coordinates(cells, count, 1).toString());
  }
}
