/** Promises 8 to 10, 13, 14 and 17: solve, interval, members, write, writeLeast, at. */
public final class SolveTest {
  private static final Check CHECK = new Check();

  public static void main(String[] args) {
    oneVariable();
    underQuantifiers();
    manyBreaks();
    leastPolynomials();
    degreesAndPlaces();
    digits();
    manyDigits();
    refusals();
    whatStays();
    CHECK.finish();
  }

  private static void solve(String text, String want) {
    CHECK.due("set of " + text, Check.set(new CellDecide(), text), want);
  }

  private static void oneVariable() {
    solve("x=x", "(all, all) : -103");
    solve("x!=x", " : 0");
    solve("x<1", "(all, t-1#0) : -103");
    solve("x<=1", "(all, t-1#0] : -103");
    solve("y>1", "(t-1#0, all) : -103");
    solve("y>=1", "[t-1#0, all) : -103");
    solve("x=1", "[t-1#0, t-1#0] : 1");
    solve("x!=1", "(all, t-1#0) (t-1#0, all) : -103");
    solve("x^2=2", "[t^2-2#0, t^2-2#0] [t^2-2#1, t^2-2#1] : 2");
    solve("x^2<=2", "[t^2-2#0, t^2-2#1] : -103");
    solve("x^2>2 and x<5", "(all, t^2-2#0) (t^2-2#1, t-5#0) : -103");
    solve("x<1 or x>1", "(all, t-1#0) (t-1#0, all) : -103");
    solve("x<1 or x>=1", "(all, all) : -103");
    solve("x<1 or x=1", "(all, t-1#0] : -103");
    solve("x^2<0 or x=3", "[t-3#0, t-3#0] : 1");
    solve("x*[x-1]*[x-2]=0", "[t#0, t#0] [t-1#0, t-1#0] [t-2#0, t-2#0] : 3");
    solve("[x-1]^2>0", "(all, t-1#0) (t-1#0, all) : -103");
    solve("[x-1]^2<=0 or x=1", "[t-1#0, t-1#0] : 1");
    solve("2*x=3 or x^2=-1", "[2*t-3#0, 2*t-3#0] : 1");
    solve("x>=0 and x<=1 or x=2", "[t#0, t-1#0] [t-2#0, t-2#0] : -103");
  }

  private static void underQuantifiers() {
    solve("some y. x^2+y^2=1", "[t+1#0, t-1#0] : -103");
    solve("some y. x^2+y^2<1", "(t+1#0, t-1#0) : -103");
    solve("some x. y=x^2", "[t#0, all) : -103");
    solve("some y. x*y=1", "(all, t#0) (t#0, all) : -103");
    solve("all y. x*y!=1", "[t#0, t#0] : 1");
    solve("all y. y^2+x*y+1>0", "(t+2#0, t-2#0) : -103");
    solve("some y. y^3-3*y+x=0 and y>1", "(all, t-2#0) : -103");
    solve("some y. x^2+y^2=4 and x*y=1", "[t^4-4*t^2+1#0, t^4-4*t^2+1#0] [t^4-4*t^2+1#1, t^4-4*t^2+1#1]"
        + " [t^4-4*t^2+1#2, t^4-4*t^2+1#2] [t^4-4*t^2+1#3, t^4-4*t^2+1#3] : 4");
    solve("some y. x*y=0 and y=1", "[t#0, t#0] : 1");
    solve("all y. x*y=0", "[t#0, t#0] : 1");
    solve("all y. [x^2-2]*y=0 and x>0", "[t^2-2#1, t^2-2#1] : 1");
    solve("(some y. y^2=x) and (all y. y^2!=x-1)", "[t#0, t-1#0) : -103");
    solve("x^2=4 and (some y. y^2=x)", "[t-2#0, t-2#0] : 1");
    // curves that have a line or a conic in common: what is left of them meets where the whole ones have no more to tell
    solve("some y. [y+100]*[y-x]>0 and [y+100]*[y+x]<0", "(all, t#0) (t-100#0, all) : -103");
    solve("some y. [y-9]^2*[y-x]<0 and [y-9]^2*[y+x]>0", "(t#0, all) : -103");
    solve("some y. [y-9]*[y-x^2]=0 and [y-9]*[y-2]=0 and y<9", "[t^2-2#0, t^2-2#0] [t^2-2#1, t^2-2#1] : 2");
    solve("all y. [y^2+x^2+1]*[y-x]<=0 or [y^2+x^2+1]*[y-3]>=0", "[t-3#0, all) : -103");
    solve("some y. [y-x]^2*[y+x]>0 and [y-x]*[y+x]^2<0", "(t#0, all) : -103");
    solve("some y. y>0", "-101 : -101");
    solve("x>0 and (some y. y<0)", "(t#0, all) : -103");
    solve("x>0 and (all y. y<0)", " : 0");
    solve("some y. x=y and not y<=1", "(t-1#0, all) : -103");
    solve("some x. y^2=2 and x=x", "[t^2-2#0, t^2-2#0] [t^2-2#1, t^2-2#1] : 2");
    solve("some x. [x-y]^2=0 and x^2+y^2=1", "[2*t^2-1#0, 2*t^2-1#0] [2*t^2-1#1, 2*t^2-1#1] : 2");
    solve("some y. y^3=2 and x=y^2", "[t^3-4#0, t^3-4#0] : 1");
    solve("all y. y^3-3*y+1=0 -> y<x", "(t^3-3*t+1#2, all) : -103");
  }

  /** Curves that turn, cross and run off in many places, of which those on the line y = x alone are ends. */
  private static void manyBreaks() {
    String[] curves = {"x*y^2-3*y+2*x", "[x-1]*y^2-15*y+x+24", "[x-6]*y^2-8*y+x+60", "[x+1]*y^2-33*y+x-60"};
    StringBuilder none = new StringBuilder("some y. y=x"), numbers = new StringBuilder(), between = new StringBuilder("(all, t+5#0)");
    for (String curve : curves) none.append(" and ").append(curve).append("!=0");
    for (int n = -5; n <= 6; n++) {
      String here = whole(n), next = n == 6 ? "all" : whole(n + 1);
      numbers.append(n == -5 ? "[" : " [").append(here).append(", ").append(here).append(']');
      between.append(" (").append(here).append(", ").append(next).append(')');
    }
    solve(none.toString(), between + " : -103");
    solve("some y. y=x and (" + String.join("=0 or ", curves) + "=0)", numbers + " : 12");
    solve("all y. y=x -> (" + String.join("!=0 and ", curves) + "!=0)", between + " : -103");
  }

  private static String whole(int n) {
    return (n == 0 ? "t" : n < 0 ? "t+" + -n : "t-" + n) + "#0";
  }

  private static void leastPolynomials() {
    solve("4*x^2=9", "[2*t+3#0, 2*t+3#0] [2*t-3#0, 2*t-3#0] : 2");
    solve("6*x^2-4*x=2", "[3*t+1#0, 3*t+1#0] [t-1#0, t-1#0] : 2");
    solve("-2*x^2+4<0 and x>0", "(t^2-2#1, all) : -103");
    solve("x^3=0", "[t#0, t#0] : 1");
    solve("x^3-2*x=0", "[t^2-2#0, t^2-2#0] [t#0, t#0] [t^2-2#1, t^2-2#1] : 3");
    solve("999*x^3-998*x^2+997*x-996=0", "[999*t^3-998*t^2+997*t-996#0, 999*t^3-998*t^2+997*t-996#0] : 1");
    solve("some y. y^2=2 and x=y+1", "[t^2-2*t-1#0, t^2-2*t-1#0] [t^2-2*t-1#1, t^2-2*t-1#1] : 2");
    solve("some y. y^2=2 and 3*x=y", "[9*t^2-2#0, 9*t^2-2#0] [9*t^2-2#1, 9*t^2-2#1] : 2");
  }

  private static void degreesAndPlaces() {
    CellDecide cells = new CellDecide();
    Check.read(cells, "some y. y^3+x*y^2-2*x+1=0 and x^3+y^3=3*x*y+1");
    int count = cells.solve();
    CHECK.due("degree 9 at most", count > 0 && cells.interval(0, 2) <= 9 ? 1 : 0, 1);
    for (int i = 0; i < count; i++) {
      CHECK.due("one number alone", cells.interval(i, 0) * 10 + cells.interval(i, 1), 22);
      CHECK.due("its degrees", cells.interval(i, 2), cells.interval(i, 4));
      CHECK.due("its places", cells.interval(i, 3), cells.interval(i, 5));
    }
  }

  private static void digit(String text, int i, int end, int digits, String want) {
    CellDecide cells = new CellDecide();
    Check.read(cells, text);
    cells.solve();
    CHECK.due(text + " written to " + digits, Check.written(cells, cells.write(i, end, digits)), want);
  }

  private static void digits() {
    digit("x^2=2", 0, 0, 0, "-2");
    digit("x^2=2", 0, 0, 1, "-1.5");
    digit("x^2=2", 1, 0, 0, "1");
    digit("x^2=2", 1, 1, 20, "1.41421356237309504880");
    digit("x^2=2", 0, 1, 20, "-1.41421356237309504881");
    digit("x=0", 0, 0, 0, "0");
    digit("x=0", 0, 0, 3, "0.000");
    digit("100*x=1", 0, 0, 1, "0.0");
    digit("100*x=-1", 0, 0, 1, "-0.1");
    digit("100*x=-1", 0, 0, 0, "-1");
    digit("100*x=-1", 0, 0, 2, "-0.01");
    digit("100*x=-1", 0, 0, 3, "-0.010");
    digit("4*x=1", 0, 0, 1, "0.2");
    digit("4*x=-1", 0, 0, 1, "-0.3");
    digit("3*x=-999", 0, 0, 2, "-333.00");
    digit("3*x=1", 0, 0, 60, "0." + "3".repeat(60));
    digit("3*x=-1", 0, 0, 60, "-0." + "3".repeat(59) + "4");
    digit("x=999", 0, 0, 5, "999.00000");
    digit("x^2=999 and x<0", 0, 0, 4, "-31.6070");
  }

  private static void manyDigits() {
    digit("x^2=2 and x>0", 0, 0, 60, "1.414213562373095048801688724209698078569671875376948073176679");
    digit("x^2=3 and x<0", 0, 0, 60, "-1.732050807568877293527446341505872366942805253810380628055807");
    digit("x^3=2", 0, 0, 60, "1.259921049894873164767210607278228350570251464701507980081975");
  }

  private static void refusals() {
    CellDecide cells = new CellDecide();
    Check.read(cells, "x<1");
    CHECK.due("interval before solve", cells.interval(0, 0), CellDecide.STATE);
    CHECK.due("members before solve", cells.members(), CellDecide.STATE);
    CHECK.due("write before solve", cells.write(0, 0, 61), CellDecide.STATE);
    CHECK.due("writeLeast before solve", cells.writeLeast(5, 5), CellDecide.STATE);
    CHECK.due("solve", cells.solve(), 1);
    int[][] outside = {{-1, 0}, {1, 0}, {0, -1}, {0, 6}, {Integer.MAX_VALUE, 0}, {Integer.MIN_VALUE, 0}, {0, Integer.MIN_VALUE}};
    for (int[] o : outside) CHECK.due("interval " + o[0] + ", " + o[1], cells.interval(o[0], o[1]), CellDecide.OUTSIDE);
    int[][] wrong = {{-1, 1, 0}, {1, 1, 0}, {0, 0, 0}, {0, 2, 0}, {0, -1, 0}, {0, 1, -1}, {0, 1, 61}, {Integer.MAX_VALUE, 1, 5},
        {0, Integer.MAX_VALUE, 5}, {0, 1, Integer.MAX_VALUE}};
    for (int[] o : wrong) CHECK.due("write " + o[0] + ", " + o[1] + ", " + o[2], cells.write(o[0], o[1], o[2]), CellDecide.OUTSIDE);
    CHECK.due("nothing was written", cells.at(0), CellDecide.NONE);
    CHECK.due("write", cells.write(0, 1, 60), 62);
    CHECK.due("writeLeast of none", cells.writeLeast(0, 0), CellDecide.OUTSIDE);
    CHECK.due("writeLeast of end 2", cells.writeLeast(0, 2), CellDecide.OUTSIDE);
    CHECK.due("writeLeast of interval 1", cells.writeLeast(1, 1), CellDecide.OUTSIDE);
    CHECK.due("what was written stays", cells.at(0) * 256 + cells.at(1), '1' * 256 + '.');
    CHECK.due("at(61)", cells.at(61), '0');
    CHECK.due("at(62)", cells.at(62), CellDecide.NONE);
    CHECK.due("at(-1)", cells.at(-1), CellDecide.NONE);
    CHECK.due("at(highest)", cells.at(Integer.MAX_VALUE), CellDecide.NONE);
    CHECK.due("at(lowest)", cells.at(Integer.MIN_VALUE), CellDecide.NONE);
    CHECK.due("writeLeast", cells.writeLeast(0, 1), 3);
    CHECK.due("at(3)", cells.at(3), CellDecide.NONE);
  }

  private static void whatStays() {
    CellDecide cells = new CellDecide();
    Check.read(cells, "x^2<2");
    CHECK.due("solve", cells.solve(), 1);
    CHECK.due("read", Check.read(cells, "x<y"), 3);
    CHECK.due("solve with both free", cells.solve(), CellDecide.STATE);
    CHECK.due("the set stays", cells.interval(0, 2), 2);
    CHECK.due("read", Check.read(cells, "true"), 0);
    CHECK.due("solve with none free", cells.solve(), CellDecide.STATE);
    CHECK.due("the set stays", Check.written(cells, cells.write(0, 0, 3)), "-1.415");
    CHECK.due("meet", Check.meet(cells, "x;y"), 1);
    CHECK.due("the set stays", cells.members(), CellDecide.MANY);
    CHECK.due("read", Check.read(cells, "y<y"), 2);
    CHECK.due("the set stays till solve", cells.members(), CellDecide.MANY);
    CHECK.due("solve", cells.solve(), 0);
    CHECK.due("a set without numbers", cells.members(), 0);
    CHECK.due("it has no interval", cells.interval(0, 0), CellDecide.OUTSIDE);
    CHECK.due("the point stays", cells.point(0, 0), 1);
  }
}
