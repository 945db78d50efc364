/** Promises 6 and 7: decide and holds. */
public final class DecideTest {
  private static final Check CHECK = new Check();

  public static void main(String[] args) {
    constants();
    oneQuantifier();
    twoQuantifiers();
    mostHeights();
    severalParts();
    refusals();
    places();
    placesUnderQuantifiers();
    CHECK.finish();
  }

  private static void decide(String text, boolean want) {
    CellDecide cells = new CellDecide();
    CHECK.due("read of " + text, Check.read(cells, text), 0);
    CHECK.due("decide of " + text, cells.decide(), want ? 1 : 0);
    CHECK.due("holds of " + text, cells.holds(1, 0, Integer.MIN_VALUE, Integer.MAX_VALUE), want ? 1 : 0);
    CHECK.due("decide again of " + text, cells.decide(), want ? 1 : 0);
  }

  private static void constants() {
    decide("true", true);
    decide("false", false);
    decide("not true", false);
    decide("true and false", false);
    decide("true or false and false", true);
    decide("(true or false) and false", false);
    decide("not false and false", false);
    decide("not (false and false)", true);
    decide("false -> false", true);
    decide("true -> false", false);
    decide("false == false", true);
    decide("true == false", false);
    decide("false or true -> true and false", false);
    decide("1<2", true);
    decide("2<=2", true);
    decide("2<2", false);
    decide("2!=2", false);
    decide("2>=3", false);
    decide("3>2", true);
    decide("-2^2=-4", true);
    decide("[-2]^2=4", true);
    decide("2*3^2=18", true);
    decide("2-3-4=-5", true);
    decide("0^0=1", true);
    decide("-1*2+3=1", true);
  }

  private static void oneQuantifier() {
    decide("some x. x^2=2", true);
    decide("some x. x^2=-2", false);
    decide("all x. x^2>=0", true);
    decide("all x. x^2>0", false);
    decide("some x. x^2=2 and x^3=2*x", true);
    decide("some x. x^2=2 and x^3=3", false);
    decide("all y. y^3-3*y+1=0 -> y!=1", true);
    decide("some y. y^3=2 and y>1 and y<2", true);
    decide("some y. y^3=2 and 100*y>126", false);
    decide("some y. y^3=2 and 100*y<126 and 100*y>125", true);
    decide("all x. x<1 or x>=1", true);
    decide("all x. x<1 or x>1", false);
    decide("some x. x<=1 and x>=1", true);
    decide("some x. x<1 and x>=1", false);
    decide("some x. true", true);
    decide("all x. false", false);
    decide("some x. 0=0", true);
  }

  private static void twoQuantifiers() {
    decide("all x. some y. x+y=0", true);
    decide("some y. all x. x+y=0", false);
    decide("all x. some y. y^2=x", false);
    decide("all x. some y. y^3=x", true);
    decide("all x. all y. x^2+y^2>=2*x*y", true);
    decide("all x. all y. x^2+y^2>2*x*y", false);
    decide("some x. some y. x^2+y^2=1 and y=x^3", true);
    decide("some x. some y. x^2+y^2<1 and x+y>=2", false);
    decide("some x. some y. x^2+y^2<=1 and x+y>=1", true);
    decide("all x. all y. x^2+y^2=1 -> x<=1", true);
    decide("all x. all y. x^2+y^2=1 -> x<1", false);
    decide("some x. all y. x*y=0", true);
    decide("some x. all y. x*y=y", true);
    decide("some x. all y. x*y=y and x!=1", false);
    decide("some x. all y. y^2+x*y+1>0 and x>=2", false);
    decide("some x. all y. y^2+x*y+1>=0 and x>=2", true);
    decide("all x. x=0 or (some y. x*y=1)", true);
    decide("all x. some y. x*y=1", false);
    decide("some x. some y. x^2=2 and y^2=3 and [x+y]^2=5+2*x*y", true);
    decide("all y. some x. x^3+x*y+1=0", true);
    decide("some x. x^3=2 and (all y. y^3=2 -> y=x)", true);
    decide("some x. x^3-3*x+1=0 and (all y. y^3-3*y+1=0 -> y=x)", false);
  }

  /** Five curves with three heights each on every line. */
  private static void mostHeights() {
    String[] curves = {"y^3-y", "[y-2]*[y-3]*[y-4]", "[y-5]*[y-6]*[y-7]", "[y+2]*[y+3]*[y+4]", "[y+5]*[y+6]*[y+7]"};
    decide("some x. some y. " + String.join(">0 and ", curves) + ">0", true);
    decide("some x. some y. " + String.join("<0 and ", curves) + "<0", true);
    decide("some x. some y. " + String.join("=0 and ", curves) + "=0", false);
    decide("all x. all y. " + String.join("!=0 or ", curves) + "!=0", true);
    decide("all x. all y. " + String.join("<=0 or ", curves) + "<=0", false);
  }

  private static void severalParts() {
    decide("(some x. x^2=2) and (all y. y^2!=-1)", true);
    decide("(some x. all y. x<=y^2) == (all y. some x. x<=y^2)", true);
    decide("(some x. all y. x<y) == (all y. some x. x<y)", false);
    decide("all x. (some y. y>x) and (some y. y<x)", true);
    decide("some x. (all y. y>=x) or (all y. y<=x)", false);
    decide("not (some x. x^2<0) -> (all y. y<1)", false);
    decide("(some x. x=1) and (some x. x=2) and (some y. y=3)", true);
  }

  private static void refusals() {
    CellDecide cells = new CellDecide();
    CHECK.due("read", Check.read(cells, "x<1"), 1);
    CHECK.due("decide with x free", cells.decide(), CellDecide.STATE);
    CHECK.due("lower 0", cells.holds(1, 0, 0, 0), CellDecide.OUTSIDE);
    CHECK.due("lower -1", cells.holds(1, -1, 0, 1), CellDecide.OUTSIDE);
    CHECK.due("lower 1001", cells.holds(1, 1001, 0, 1), CellDecide.OUTSIDE);
    CHECK.due("lower 1000", cells.holds(999, 1000, 0, 1), 1);
    CHECK.due("equal", cells.holds(1000, 1000, 0, 1), 0);
    CHECK.due("upper 1000000", cells.holds(1000000, 1, 0, 1), 0);
    CHECK.due("upper -1000000", cells.holds(-1000000, 1, 0, 1), 1);
    CHECK.due("upper 1000001", cells.holds(1000001, 1, 0, 1), CellDecide.OUTSIDE);
    CHECK.due("upper -1000001", cells.holds(-1000001, 1, 0, 1), CellDecide.OUTSIDE);
    CHECK.due("lowest", cells.holds(Integer.MIN_VALUE, 1, 0, 1), CellDecide.OUTSIDE);
    CHECK.due("y counts for nothing", cells.holds(0, 1, Integer.MIN_VALUE, 0), 1);
    CHECK.due("read", Check.read(cells, "y<1"), 2);
    CHECK.due("decide with y free", cells.decide(), CellDecide.STATE);
    CHECK.due("x counts for nothing", cells.holds(Integer.MIN_VALUE, 0, 0, 1), 1);
    CHECK.due("lower 0 of y", cells.holds(0, 1, 0, 0), CellDecide.OUTSIDE);
    CHECK.due("read", Check.read(cells, "x<y"), 3);
    CHECK.due("decide with both free", cells.decide(), CellDecide.STATE);
    CHECK.due("y outside", cells.holds(0, 1, 2000000, 1), CellDecide.OUTSIDE);
    CHECK.due("x outside", cells.holds(0, 0, 2, 1), CellDecide.OUTSIDE);
    CHECK.due("read a fault", Check.read(cells, "x<y<"), -1003);
    CHECK.due("holds without statement", cells.holds(0, 0, 0, 0), CellDecide.STATE);
    CHECK.due("decide without statement", cells.decide(), CellDecide.STATE);
  }

  private static void holds(String text, int xUp, int xLow, int yUp, int yLow, int want) {
    CellDecide cells = new CellDecide();
    Check.read(cells, text);
    String call = text + " at " + xUp + "/" + xLow + ", " + yUp + "/" + yLow;
    CHECK.due(call, cells.holds(xUp, xLow, yUp, yLow), want);
  }

  private static void places() {
    holds("x^2+y^2=1", 3, 5, -4, 5, 1);
    holds("x^2+y^2=1", 3, 5, 4, 6, 0);
    holds("x^2+y^2=1", 600, 1000, 800, 1000, 1);
    holds("x^3-y^3<0", 999999, 1000, 1000000, 1000, 1);
    holds("x^3-y^3>0", -999999, 1000, -1000000, 1000, 1);
    holds("999*x^3+999*y^3-x*y<999", -1000000, 1, 1000000, 1, 0);
    holds("999*x^3+999*y^3+x*y<999", -1000000, 1, 1000000, 1, 1);
    holds("x*y=1", 7, 3, 3, 7, 1);
    holds("x<0 == y<0", -1, 2, -1, 3, 1);
    holds("x<0 -> y<0", -1, 2, 1, 3, 0);
    holds("2*x=1 and not y!=0", 2, 4, 0, 9, 1);
  }

  private static void placesUnderQuantifiers() {
    holds("some y. y^2=x", -1, 1000, 0, 0, 0);
    holds("some y. y^2=x", 0, 1000, 0, 0, 1);
    holds("some y. y^2=x and y>0", 0, 1000, 0, 0, 0);
    holds("some x. x^2+y^2=1 and x=y", 0, 0, 7071, 1000, 0);
    holds("some x. x^2+y^2=1 and 5*x=3", 0, 0, 4, 5, 1);
    holds("all y. x*y<1 or y^2>x", 1, 1, 0, 0, 0);
    holds("all y. x*y<1 or y^2>x", 999, 1000, 0, 0, 1);
    holds("all y. x*y=y", 1, 1, 0, 0, 1);
    holds("(some y. x*y=1) and x<5", 0, 1, 0, 0, 0);
    holds("(some y. x*y=1) and x<5", 1, 1000, 0, 0, 1);
    holds("(some y. y^3=x) and (all y. y^2>=x)", 0, 1, 0, 0, 1);
    holds("some y. y^3-3*y+x=0 and y>1", 2, 1, 0, 0, 0);
    holds("some y. y^3-3*y+x=0 and y>1", 1999, 1000, 0, 0, 1);
    holds("some y. [y-1]^2*[y+x]=0 and y>1", -1, 1, 0, 0, 0);
    holds("some y. [y-1]^2*[y+x]=0 and y>1", -2, 1, 0, 0, 1);
  }
}
