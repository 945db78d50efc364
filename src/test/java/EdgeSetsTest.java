/** The sentences of the document's part '2 NUMBERS, SETS' that name an edge: least form, ends, intervals, points, refusals. */
public final class EdgeSetsTest {
  private static final Check CHECK = new Check();
  private static final String PART = "2 NUMBERS, SETS";

  public static void main(String[] args) {
    leastForm();
    leastDegree();
    degree();
    place();
    theSet();
    asGreatAsCanBe();
    inOrder();
    goesOnBelowOrAbove();
    closedEnds();
    oneNumberAlone();
    commonPoints();
    tooGreatCurves();
    lessX();
    lessY();
    firstRefusal();
    outsideNumbers();
    CHECK.finish();
  }

  private static void set(String text, String want) {
    CHECK.due("set of " + text, Check.set(new CellDecide(), text), want);
  }

  private static void points(String text, String want) {
    CHECK.due("points of " + text, Check.points(new CellDecide(), text), want);
  }

  /** A set of numbers alone, each told by least polynomial and place. */
  private static void numbers(String text, String... want) {
    StringBuilder set = new StringBuilder();
    for (String number : want) set.append(set.length() == 0 ? "[" : " [").append(number).append(", ").append(number).append(']');
    set(text, set.append(" : ").append(want.length).toString());
  }

  private static void leastForm() {
    CHECK.of(PART, "in LEAST FORM, if no number above 1 divides all of them, and the highest one is above 0.");
    numbers("4*x^2=8", "t^2-2#0", "t^2-2#1");
    numbers("-3*x+6=0", "t-2#0");
    numbers("6*x=4", "3*t-2#0");
    numbers("6*x=-9", "2*t+3#0");
    numbers("-x^3=2", "t^3+2#0");
    numbers("-2*x^3=6*x+10", "t^3+3*t+5#0");
    numbers("999*x=999", "t-1#0");
    numbers("998*x=0", "t#0");
    numbers("-998*x^2=0", "t#0");
    numbers("some y. y=999 and 999*x=y", "t-1#0");
    points("-2*x+4;6*y^2-4", "2 (t-2#0, 3*t^2-2#0) (t-2#0, 3*t^2-2#1)");
  }

  private static void leastDegree() {
    CHECK.of(PART, "its LEAST POLYNOMIAL is that of the least degree in least form;");
    numbers("x^2=4", "t+2#0", "t-2#0");
    numbers("x^3=2*x", "t^2-2#0", "t#0", "t^2-2#1");
    numbers("-4*x^2-6*x+10=0", "2*t+5#0", "t-1#0");
    numbers("[x-1]^2*[x+2]=0", "t+2#0", "t-1#0");
    numbers("[3*x-1]^3=0", "3*t-1#0");
    numbers("some y. y^2=2 and x=y^2", "t-2#0");
    numbers("some y. y^2=2 and x=y+1", "t^2-2*t-1#0", "t^2-2*t-1#1");
    numbers("some y. y^2=2 and [x-y]^2=3", "t^4-10*t^2+1#0", "t^4-10*t^2+1#1", "t^4-10*t^2+1#2", "t^4-10*t^2+1#3");
    numbers("some y. y^2=2 and [x-y]^2=8", "t^2-18#0", "t^2-2#0", "t^2-2#1", "t^2-18#1");
    numbers("some y. y^3=2 and [x-y]^3=3", "t^9-15*t^6-87*t^3-125#0");
    numbers("some y. y^3-3*y+1=0 and x=y^2-2", "t^3-3*t+1#0", "t^3-3*t+1#1", "t^3-3*t+1#2");
    // the ends are the same as those of x^2 = 2, whichever curves they come from
    set("some x. x*[y^2-2]=0 and x=1 or y>0 and y<1 and x=x", "[t^2-2#0, t^2-2#0] (t#0, t-1#0) [t^2-2#1, t^2-2#1] : -103");
    points("x^2-y;y-2", "2 (t^2-2#0, t-2#0) (t^2-2#1, t-2#0)");
    points("x^3-2;y-x^2", "1 (t^3-2#0, t^3-4#0)");
  }

  private static void degree() {
    CHECK.of(PART, "its DEGREE is that one's");
    String[] texts = {"x=0", "x^2=2 and x>0", "x^3=2", "some y. y^2=2 and [x-y]^2=3 and x>3", "some y. y^2=2 and [x-y]^3=2 and x>2",
        "some y. y^3=2 and [x-y]^3=3"};
    int[] degrees = {1, 2, 3, 4, 6, 9};
    for (int i = 0; i < texts.length; i++) {
      CellDecide cells = new CellDecide();
      Check.read(cells, texts[i]);
      CHECK.due("solve of " + texts[i], cells.solve(), 1);
      CHECK.due("degree of the lower end of " + texts[i], cells.interval(0, 2), degrees[i]);
      CHECK.due("degree of the upper end of " + texts[i], cells.interval(0, 4), degrees[i]);
    }
  }

  private static void place() {
    CHECK.of(PART, "its PLACE is how many of that one's real roots are less.");
    numbers("x^3-3*x+1=0 and x<-1", "t^3-3*t+1#0");
    numbers("x^3-3*x+1=0 and x>0 and x<1", "t^3-3*t+1#1");
    numbers("x^3-3*x+1=0 and x>1", "t^3-3*t+1#2");
    numbers("x^2=2 and x>0", "t^2-2#1");
    // of the roots that are not real none is less
    numbers("x^3=2", "t^3-2#0");
    numbers("some y. y^2=2 and x^2=y", "t^4-2#0", "t^4-2#1");
    // roots of other polynomials count for nothing
    numbers("x^2=3 or x^2=2", "t^2-3#0", "t^2-2#0", "t^2-2#1", "t^2-3#1");
  }

  private static void theSet() {
    CHECK.of(PART, "THE SET of a statement with one free variable is that of all real numbers for which it is so.");
    set("x=x", "(all, all) : -103");
    set("x<x", " : 0");
    set("0*y=1", " : 0");
    set("some y. x^2+y^2<0", " : 0");
    set("some y. x^2+y^2=0", "[t#0, t#0] : 1");
    set("all y. y^2>=x", "(all, t#0] : -103");
    set("all y. y^2>x", "(all, t#0) : -103");
    set("all x. x^2+y>0", "(t#0, all) : -103");
    set("true or x=1", "(all, all) : -103");
    set("x=1 and false", " : 0");
    set("x=1 and (some y. y^2=-1)", " : 0");
    set("x=1 and (some y. y^2=1)", "[t-1#0, t-1#0] : 1");
  }

  private static void asGreatAsCanBe() {
    CHECK.of(PART, "INTERVALS are its parts: as great as can be, each without a gap");
    set("x<0 or x=0 or x>0", "(all, all) : -103");
    set("x<=0 or x>=0", "(all, all) : -103");
    set("x<1 or x>1", "(all, t-1#0) (t-1#0, all) : -103");
    set("x=1 or x>1 and x<2 or x=2", "[t-1#0, t-2#0] : -103");
    set("x>0 and x<1 or x>=1 and x<2", "(t#0, t-2#0) : -103");
    set("x>0 and x<=1 or x>1 and x<2", "(t#0, t-2#0) : -103");
    set("x>0 and x<1 or x>1 and x<2", "(t#0, t-1#0) (t-1#0, t-2#0) : -103");
    set("x^2<2 or x^2=2", "[t^2-2#0, t^2-2#1] : -103");
    set("x<2 and (x=1 or x!=1)", "(all, t-2#0) : -103");
    set("some y. [x-1]*y=0", "(all, all) : -103");
    set("some y. y^2=x^2", "(all, all) : -103");
    set("x<2 and (some y. x*y=1 or y=1)", "(all, t-2#0) : -103");
  }

  private static void inOrder() {
    CHECK.of(PART, "in order");
    numbers("x=3 or x=1 or x=2", "t-1#0", "t-2#0", "t-3#0");
    set("x>5 or x<0 or x=2", "(all, t#0) [t-2#0, t-2#0] (t-5#0, all) : -103");
    // 15 numbers, and the 16 intervals between them
    String text = "x^3-x=0 or [x-2]*[x-3]*[x-4]=0 or [x-5]*[x-6]*[x-7]=0 or [x+2]*[x+3]*[x+4]=0 or [x+5]*[x+6]*[x+7]=0";
    String[] all = new String[15];
    StringBuilder others = new StringBuilder("(all, t+7#0)");
    for (int n = -7; n <= 7; n++) {
      all[n + 7] = named(n);
      others.append(" (").append(named(n)).append(", ").append(n == 7 ? "all" : named(n + 1)).append(')');
    }
    numbers(text, all);
    set(text.replace("=", "!=").replace("or", "and"), others + " : -103");
    // ends that are close to one another: 99/70 and 41/29 on the two sides of the root of 2
    numbers("70*x=99 or x^2=2 and x>0 or 29*x=41", "29*t-41#0", "t^2-2#1", "70*t-99#0");
    numbers("999*x=1 or 998*x=1", "999*t-1#0", "998*t-1#0");
  }

  private static String named(int n) {
    return (n == 0 ? "t" : n < 0 ? "t+" + -n : "t-" + n) + "#0";
  }

  private static void goesOnBelowOrAbove() {
    CHECK.of(PART, "each has a lower END, or goes on below all, and an upper one, or goes on above all");
    ends("x=x", 0, 0);
    ends("x<1", 0, 1);
    ends("x>1", 1, 0);
    ends("x>1 and x<2", 1, 1);
  }

  private static void closedEnds() {
    CHECK.of(PART, "an end is CLOSED, if it is in the set");
    ends("x<=1", 0, 2);
    ends("x>=1", 2, 0);
    ends("x>=1 and x<2", 2, 1);
    ends("x>1 and x<=2", 1, 2);
    ends("x>=1 and x<=2", 2, 2);
    set("x^2<=2 and x!=1", "[t^2-2#0, t-1#0) (t-1#0, t^2-2#1] : -103");
    set("some y. x*y=1 and y>=1", "(t#0, t-1#0] : -103");
    set("some y. y^3=x and y<=2 and y>1", "(t-1#0, t-8#0] : -103");
  }

  private static void ends(String text, int lower, int upper) {
    CellDecide cells = new CellDecide();
    Check.read(cells, text);
    CHECK.due("solve of " + text, cells.solve(), 1);
    CHECK.due("lower end of " + text, cells.interval(0, 0), lower);
    CHECK.due("upper end of " + text, cells.interval(0, 1), upper);
    for (int what = 2; what < 6; what++) {
      boolean none = (what < 4 ? lower : upper) == 0;
      CHECK.due("interval(0, " + what + ") of " + text, cells.interval(0, what), none ? CellDecide.NONE : what % 2 == 0 ? 1 : 0);
    }
  }

  private static void oneNumberAlone() {
    CHECK.of(PART, "(one number alone: both ends are it, closed)");
    CellDecide cells = new CellDecide();
    Check.read(cells, "x^2=2 and x>0");
    CHECK.due("solve", cells.solve(), 1);
    int[] due = {2, 2, 2, 1, 2, 1};
    for (int what = 0; what < 6; what++) CHECK.due("interval(0, " + what + ")", cells.interval(0, what), due[what]);
    for (int end = 0; end < 2; end++) {
      CHECK.due("write(0, " + end + ", 4)", Check.written(cells, cells.write(0, end, 4)), "1.4142");
      CHECK.due("writeLeast(0, " + end + ")", Check.written(cells, cells.writeLeast(0, end)), "t^2-2");
    }
    set("x<1 or x=2 or x>3", "(all, t-1#0) [t-2#0, t-2#0] (t-3#0, all) : -103");
  }

  private static void commonPoints() {
    CHECK.of(PART, "TWO CURVES: two polynomials [..] both 0 in common POINTS");
    points("x;y", "1 (t#0, t#0)");
    points("1;y", "0");
    points("x^2+1;y", "0");
    points("x^2+y^2;x^3-y", "1 (t#0, t#0)");
    points("x^2+y^2-1;x-1", "1 (t-1#0, t#0)");
    points("x^2+y^2-1;x-2", "0");
    points("x*y-1;x", "0");
    points("x-y;x-y-1", "0");
    points("[x-1]^2;[y-2]^3", "1 (t-1#0, t-2#0)");
    points("y^2-x^3;y-x", "2 (t#0, t#0) (t-1#0, t-1#0)");
  }

  private static void tooGreatCurves() {
    CHECK.of(PART, "(as in a comparison: TOO GREAT likewise, at the token behind the first one, or the end)");
    tooGreat("x^4|;y");
    tooGreat("x^4 |; y^4");
    tooGreat("x;y^4|");
    tooGreat("x ; y^4  \n|");
    tooGreat("999+1|;x");
    tooGreat("-999-1|;x");
    tooGreat("x;999+1|");
    tooGreat("x;-999*y-y|");
    tooGreat("x^2*y^2|;x");
    tooGreat("0*1^4|;x");
    tooGreat("0*[100*100*100+1]+x|;y");
    tooGreat("y;0*101^3+x|");
    tooGreat("y;x^3*x*0+x|");
    points("998+1;x", "0");
    points("x-999;y+999", "1 (t-999#0, t+999#0)");
    points("100*100*100+1-100*100*100;y", "0");
    points("x^3;y^3", "1 (t#0, t#0)");
    points("x^0-1;y", "-103");
  }

  private static void tooGreat(String marked) {
    CellDecide cells = new CellDecide();
    CHECK.due("meet of " + marked, Check.meet(cells, marked.replace("|", "")), -1000 - marked.indexOf('|'));
    CHECK.due("fault of " + marked, cells.fault(), 6);
  }

  private static void lessX() {
    CHECK.of(PART, "of several the one with the less x comes first");
    points("[x-2]*[x-1]*[x+3];y+x", "3 (t+3#0, t-3#0) (t-1#0, t+1#0) (t-2#0, t+2#0)");
    points("[31*x-1]*[32*x-1];y", "2 (32*t-1#0, t#0) (31*t-1#0, t#0)");
    points("x*y-1;y^2-2", "2 (2*t^2-1#0, t^2-2#0) (2*t^2-1#1, t^2-2#1)");
    points("x+y;y^3-3*y+1", "3 (t^3-3*t-1#0, t^3-3*t+1#2) (t^3-3*t-1#1, t^3-3*t+1#1) (t^3-3*t-1#2, t^3-3*t+1#0)");
  }

  private static void lessY() {
    CHECK.of(PART, "of these the one with the less y.");
    points("x;[y-2]*[y+1]*y", "3 (t#0, t+1#0) (t#0, t#0) (t#0, t-2#0)");
    points("x^2-2;y^2-x^2", "4 (t^2-2#0, t^2-2#0) (t^2-2#0, t^2-2#1) (t^2-2#1, t^2-2#0) (t^2-2#1, t^2-2#1)");
    points("x^2-2;y^3-2*y", "6 (t^2-2#0, t^2-2#0) (t^2-2#0, t#0) (t^2-2#0, t^2-2#1)"
        + " (t^2-2#1, t^2-2#0) (t^2-2#1, t#0) (t^2-2#1, t^2-2#1)");
    points("x^3-2;[31*y-1]*[32*y-1]", "2 (t^3-2#0, 32*t-1#0) (t^3-2#0, 31*t-1#0)");
  }

  private static void firstRefusal() {
    CHECK.of(PART, "Refusals are answers, of several the first one here: STATE, OUTSIDE");
    CellDecide cells = new CellDecide();
    CHECK.due("holds", cells.holds(2000000, 0, 2000000, 0), CellDecide.STATE);
    CHECK.due("interval", cells.interval(-1, 6), CellDecide.STATE);
    CHECK.due("point", cells.point(-1, 4), CellDecide.STATE);
    CHECK.due("write", cells.write(-1, 2, 61), CellDecide.STATE);
    CHECK.due("writeLeast", cells.writeLeast(-1, 2), CellDecide.STATE);
    CHECK.due("writePoint", cells.writePoint(-1, 2, 61), CellDecide.STATE);
    CHECK.due("writePointLeast", cells.writePointLeast(-1, 2), CellDecide.STATE);
    // a set is no point, a point is no set
    Check.read(cells, "x<1");
    cells.solve();
    CHECK.due("point beside a set", cells.point(-1, 4), CellDecide.STATE);
    CHECK.due("writePoint beside a set", cells.writePoint(-1, 2, 61), CellDecide.STATE);
    CHECK.due("writePointLeast beside a set", cells.writePointLeast(-1, 2), CellDecide.STATE);
    cells = new CellDecide();
    Check.meet(cells, "x;y");
    CHECK.due("interval beside points", cells.interval(-1, 6), CellDecide.STATE);
    CHECK.due("members beside points", cells.members(), CellDecide.STATE);
    CHECK.due("write beside points", cells.write(-1, 2, 61), CellDecide.STATE);
    CHECK.due("writeLeast beside points", cells.writeLeast(-1, 2), CellDecide.STATE);
    CHECK.due("holds beside points", cells.holds(0, 0, 0, 0), CellDecide.STATE);
    CHECK.due("decide beside points", cells.decide(), CellDecide.STATE);
    CHECK.due("solve beside points", cells.solve(), CellDecide.STATE);
  }

  private static void outsideNumbers() {
    CHECK.of(PART, "OUTSIDE (a number is not as said).");
    CellDecide cells = new CellDecide();
    Check.read(cells, "x=1");
    cells.solve();
    Check.meet(cells, "x;y");
    int[] far = {Integer.MIN_VALUE, -1, 7, 1000, Integer.MAX_VALUE};
    for (int n : far) {
      CHECK.due("interval(" + n + ", 0)", cells.interval(n, 0), CellDecide.OUTSIDE);
      CHECK.due("interval(0, " + n + ")", cells.interval(0, n), CellDecide.OUTSIDE);
      CHECK.due("point(" + n + ", 0)", cells.point(n, 0), CellDecide.OUTSIDE);
      CHECK.due("point(0, " + n + ")", cells.point(0, n), CellDecide.OUTSIDE);
      CHECK.due("write(" + n + ", 0, 0)", cells.write(n, 0, 0), CellDecide.OUTSIDE);
      CHECK.due("write(0, " + n + ", 0)", cells.write(0, n, 0), CellDecide.OUTSIDE);
      CHECK.due("writeLeast(" + n + ", 0)", cells.writeLeast(n, 0), CellDecide.OUTSIDE);
      CHECK.due("writeLeast(0, " + n + ")", cells.writeLeast(0, n), CellDecide.OUTSIDE);
      CHECK.due("writePoint(" + n + ", 0, 0)", cells.writePoint(n, 0, 0), CellDecide.OUTSIDE);
      CHECK.due("writePoint(0, " + n + ", 0)", cells.writePoint(0, n, 0), CellDecide.OUTSIDE);
      CHECK.due("writePointLeast(" + n + ", 0)", cells.writePointLeast(n, 0), CellDecide.OUTSIDE);
      CHECK.due("writePointLeast(0, " + n + ")", cells.writePointLeast(0, n), CellDecide.OUTSIDE);
    }
    CHECK.due("nothing was written", cells.at(0), CellDecide.NONE);
  }
}
