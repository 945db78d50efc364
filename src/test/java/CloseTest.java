/**
 * Promises 6, 8, 11, 13 and 15 where numbers lie close to one another: ends, points and heights that differ far behind the point,
 * curves that have some heights in common on a line and others nearly, digits next to where they change.
 */
public final class CloseTest {
  private static final Check CHECK = new Check();

  public static void main(String[] args) {
    closeEnds();
    closeHeights();
    closePoints();
    sharedHeights();
    sharedHeightsOnOneLine();
    digitsThatChange();
    digitsFarBehindChange();
    CHECK.finish();
  }

  private static void set(String text, String want) {
    CHECK.due("set of " + text, Check.set(new CellDecide(), text), want);
  }

  private static void points(String text, String want) {
    CHECK.due("points of " + text, Check.points(new CellDecide(), text), want);
  }

  private static void decide(String text, int want) {
    CellDecide cells = new CellDecide();
    CHECK.due("read of " + text, Check.read(cells, text), 0);
    CHECK.due("decide of " + text, cells.decide(), want);
  }

  /** 114243/80782 and 665857/470832 are above the root of 2 by 5 and 0.2 parts of a hundred thousand million. */
  private static void closeEnds() {
    String near = "338*y=1 and 239*x", nearer = "816*y=1 and 577*x";
    set("x^2>2 and x>0 and (some y. " + near + "<338-y)", "(t^2-2#1, 80782*t-114243#0) : -103");
    set("x^2>2 and x>0 and (some y. " + nearer + "<816+y)", "(t^2-2#1, 470832*t-665857#0) : -103");
    set("x^2<=2 and (some y. " + nearer + ">=816+y)", " : 0");
    set("(some y. " + nearer + ">816+y) and (some y. " + near + "<338-y)", "(470832*t-665857#0, 80782*t-114243#0) : -103");
    set("x^2=2 or (some y. " + near + "=338-y or " + nearer + "=816+y)",
        "[t^2-2#0, t^2-2#0] [t^2-2#1, t^2-2#1] [470832*t-665857#0, 470832*t-665857#0] [80782*t-114243#0, 80782*t-114243#0] : 4");
    decide("some x. x^2>2 and x>0 and (some y. " + nearer + "<816+y)", 1);
    decide("some x. x^2>2 and x>0 and (some y. " + nearer + "<=816-y)", 0);
    decide("all x. x>0 and (some y. " + nearer + "=816+y) -> x^2>2", 1);
  }

  /** Where 999 x^2 - 998 x = 2 and x is above 0, the two curves are less than 2^-39 apart, and no end is near. */
  private static void closeHeights() {
    String there = "some y. 999*x^2-998*x-2=0 and ";
    set(there + "y>x and 900*[y-x]<[x-1]^3", "[999*t^2-998*t-2#1, 999*t^2-998*t-2#1] : 1");
    set(there + "y<x and 900*[y-x]>[x-1]^3", "[999*t^2-998*t-2#0, 999*t^2-998*t-2#0] : 1");
    set(there + "y=x and 900*[y-x]=[x-1]^3", " : 0");
    set(there + "y<x and 900*[y-x]>[x-1]^3 and x>0", " : 0");
    decide("all x. all y. 999*x^2-998*x-2=0 and x>0 and 900*[y-x]>=[x-1]^3 -> y>x", 1);
    decide("all x. all y. 999*x^2-998*x-2=0 and 900*[y-x]>=[x-1]^3 -> y>x", 0);
  }

  private static void closePoints() {
    points("999*x^2-998*x-2;x-y", "2 (999*t^2-998*t-2#0, 999*t^2-998*t-2#0) (999*t^2-998*t-2#1, 999*t^2-998*t-2#1)");
    points("y-x;900*[y-x]-[x-1]^3", "1 (t-1#0, t-1#0)");
    points("[31*x-1]*[32*x-1];[31*y-1]*[32*y-1]", "4 (32*t-1#0, 32*t-1#0) (32*t-1#0, 31*t-1#0) (31*t-1#0, 32*t-1#0) (31*t-1#0, 31*t-1#0)");
  }

  /** Curves that have a part in common. */
  private static void sharedHeights() {
    set("all y. [y-x]*[2*y-2*x-1]=0 -> y=x", " : 0");
    set("some y. [y-x]*[2*y-2*x-1]=0 and y>x", "(all, all) : -103");
    set("some y. y=x and [y-x]*[2*y-2*x-1]=0 and 2*y>=1", "[2*t-1#0, all) : -103");
    set("all y. [y-x]*[3*y-1]=0 == y=x", "[3*t-1#0, 3*t-1#0] : 1");
    set("some y. [y^2-x]*[y-1]=0 and [y^2-x]*[y+1]=0 and y>1", "(t-1#0, all) : -103");
    set("some y. [y^2-x]*[y-1]=0 and [y^2-x]*[y+1]=0", "[t#0, all) : -103");
    set("some y. [y^2+x*y-1]*[y-1]=0 and [y^2+x*y-1]*[y+2]=0 and y>1", "(all, t#0) : -103");
    set("all y. [y^2+x*y-1]*[2*y-1]=0 -> [y^2+x*y-1]*[3*y-1]=0", "[2*t-3#0, 2*t-3#0] : 1");
    set("some y. [y^2+x*y+1]*[2*y-1]=0 and [y^2+x*y+1]*[3*y-1]=0", "(all, t+2#0] [t-2#0, all) : -103");
  }

  /** Curves that have two heights in common where x^2 = 3, and not beside it: real and apart, not real, one twice. */
  private static void sharedHeightsOnOneLine() {
    String[] parts = {"[y^2-2]*", "[y^2+2]*", "[y-1]^2*"};
    String[] curves = {"[y-1]+[x^2-3]*y", "[y+1]+x^2-3", "[2*y-1]+[x^2-3]*y", "[3*y-1]+x^2-3"};
    String first = "(t^2-3#0, ", second = "(t^2-3#1, ";
    points(parts[0] + curves[0] + ";" + parts[0] + curves[1],
        "4 " + first + "t^2-2#0) " + first + "t^2-2#1) " + second + "t^2-2#0) " + second + "t^2-2#1)");
    points(parts[1] + curves[2] + ";" + parts[1] + curves[3], "0");
    points(parts[2] + curves[2] + ";" + parts[2] + curves[3], "2 " + first + "t-1#0) " + second + "t-1#0)");
    String one = "[t^2-3#0, t^2-3#0]", both = one + " [t^2-3#1, t^2-3#1] : 2";
    set("some y. " + parts[0] + curves[0] + "=0 and " + parts[0] + curves[1] + "=0 and y>1", both);
    set("some y. " + parts[1] + curves[2] + "=0 and " + parts[1] + curves[3] + "=0", " : 0");
    set("some y. " + parts[2] + curves[2] + "=0 and " + parts[2] + curves[3] + "=0", both);
  }

  private static void digits(String text, int digits, String want) {
    CellDecide cells = new CellDecide();
    Check.read(cells, text);
    CHECK.due("solve of " + text, cells.solve(), 1);
    CHECK.due(digits + " digits of " + text, Check.written(cells, cells.write(0, 0, digits)), want);
  }

  /** Roots that are about one part of a million beside a whole number, above it and below it. */
  private static void digitsThatChange() {
    String[] texts = {"x*[x-y^2]=1 and x>0", "x*[x-y^2]=1 and x<0", "x*[x-y^2]=-1 and x>1", "x*[x-y^2]=-1 and x<1", "x*[x+y^2]=1 and x<0",
        "x*[x+y^2]=-1 and x<-1"};
    int[] counts = {0, 1, 2, 3, 4, 5, 6, 7, 12, 20};
    String[][] due = {
      {"998001", "998001.0", "998001.00", "998001.000", "998001.0000", "998001.00000", "998001.000001", "998001.0000010",
        "998001.000001002003", "998001.00000100200300400399"},
      {"-1", "-0.1", "-0.01", "-0.001", "-0.0001", "-0.00001", "-0.000002", "-0.0000011", "-0.000001002004", "-0.00000100200300400400"},
      {"998000", "998000.9", "998000.99", "998000.999", "998000.9999", "998000.99999", "998000.999998", "998000.9999989",
        "998000.999998997996", "998000.99999899799699599398"},
      {"0", "0.0", "0.00", "0.000", "0.0000", "0.00000", "0.000001", "0.0000010", "0.000001002003", "0.00000100200300400601"},
      {"-998002", "-998001.1", "-998001.01", "-998001.001", "-998001.0001", "-998001.00001", "-998001.000002", "-998001.0000011",
        "-998001.000001002004", "-998001.00000100200300400400"},
      {"-998001", "-998001.0", "-998001.00", "-998001.000", "-998001.0000", "-998001.00000", "-998000.999999", "-998000.9999990",
        "-998000.999998997997", "-998000.99999899799699599399"}};
    for (int i = 0; i < texts.length; i++) {
      for (int j = 0; j < counts.length; j++) digits("some y. y=999 and " + texts[i], counts[j], due[i][j]);
    }
  }

  /** Roots that are about one part of a hundred thousand million beside 99.9, which halves of halves never meet. */
  private static void digitsFarBehindChange() {
    String[] texts = {"99*x*[10*x*y-1]=y^3 and x>1", "99*x*[10*x*y+1]=y^3 and x<-1", "99*x*[10*x*y-1]=-y^3 and x>1",
        "99*x*[10*x*y+1]=-y^3 and x<-1"};
    int[] counts = {0, 1, 2, 6, 7, 10, 11, 12, 16};
    String[][] due = {
      {"99", "99.9", "99.90", "99.900000", "99.9000000", "99.9000000000", "99.90000000001", "99.900000000010", "99.9000000000101313"},
      {"-100", "-100.0", "-99.91", "-99.900001", "-99.9000001", "-99.9000000001", "-99.90000000002", "-99.900000000011",
        "-99.9000000000101314"},
      {"99", "99.8", "99.89", "99.899999", "99.8999999", "99.8999999999", "99.89999999998", "99.899999999989", "99.8999999999898686"},
      {"-100", "-99.9", "-99.90", "-99.900000", "-99.9000000", "-99.9000000000", "-99.89999999999", "-99.899999999990",
        "-99.8999999999898687"}};
    for (int i = 0; i < texts.length; i++) {
      for (int j = 0; j < counts.length; j++) digits("some y. 999*y=1 and " + texts[i], counts[j], due[i][j]);
    }
  }
}
