/** The sentences of promises 1 to 17 that name an edge: too small, too large, empty, full, refused, what stays and what goes. */
public final class EdgeCallsTest {
  private static final Check CHECK = new Check();
  private static final int STATE = CellDecide.STATE, OUTSIDE = CellDecide.OUTSIDE, MANY = CellDecide.MANY, NONE = CellDecide.NONE;
  private static final int LOWEST = Integer.MIN_VALUE, HIGHEST = Integer.MAX_VALUE;

  public static void main(String[] args) {
    newObject();
    feedHighestByteFirst();
    feedBehindTheTape();
    feedTooMany();
    endCuts();
    endOutside();
    readFree();
    readOneBefore();
    readFault();
    readAfterFaults();
    faultOfLatest();
    decideSo();
    decideState();
    holdsWhere();
    holdsNotFree();
    holdsState();
    holdsOutside();
    solveFromNowOn();
    solveState();
    intervalEnds();
    intervalNone();
    intervalOutside();
    membersCount();
    membersMany();
    meetFromNowOn();
    meetMany();
    meetFault();
    pointWhat();
    pointRefusals();
    writeRoundedDown();
    writeSign();
    writeDigits();
    writeRefusals();
    leastForms();
    leastRefusals();
    writePoints();
    writePointRefusals();
    writePointLeasts();
    writingTellsLength();
    atBytes();
    atStays();
    calls512();
    CHECK.finish();
  }

  private static CellDecide solved(String text) {
    CellDecide cells = new CellDecide();
    Check.read(cells, text);
    CHECK.due("solve of " + text, cells.solve() >= 0 ? 1 : 0, 1);
    return cells;
  }

  private static CellDecide met(String text) {
    CellDecide cells = new CellDecide();
    CHECK.due("meet of " + text, Check.meet(cells, text) >= 0 ? 1 : 0, 1);
    return cells;
  }

  private static void newObject() {
    CHECK.of("Promise 1", "No statement, no set, no points, an empty tape.");
    CellDecide cells = new CellDecide();
    CHECK.due("decide", cells.decide(), STATE);
    CHECK.due("holds", cells.holds(0, 1, 0, 1), STATE);
    CHECK.due("solve", cells.solve(), STATE);
    CHECK.due("interval", cells.interval(0, 0), STATE);
    CHECK.due("members", cells.members(), STATE);
    CHECK.due("write", cells.write(0, 0, 0), STATE);
    CHECK.due("writeLeast", cells.writeLeast(0, 0), STATE);
    CHECK.due("point", cells.point(0, 0), STATE);
    CHECK.due("writePoint", cells.writePoint(0, 0, 0), STATE);
    CHECK.due("writePointLeast", cells.writePointLeast(0, 0), STATE);
    CHECK.due("fault", cells.fault(), 0);
    CHECK.due("at(0)", cells.at(0), NONE);
    CHECK.due("end(0)", Check.end(cells, 0), 1);
    CHECK.due("end(1)", Check.end(cells, 1), 0);
    CHECK.due("read", cells.read(), -1000);
    CHECK.due("meet", new CellDecide().meet(), -1000);
    CHECK.due("feed", Check.feed(new CellDecide()), 20);
    // two objects have nothing in common
    CellDecide other = solved("x<1");
    CHECK.due("a set of another object", new CellDecide().members(), STATE);
    CHECK.due("it stays there", other.members(), MANY);
  }

  private static void feedHighestByteFirst() {
    CHECK.of("Promise 2", "Twenty bytes come behind the tape, each number's highest one first");
    CellDecide cells = new CellDecide();
    // "x<1a", "nd y", "<1or", " x=2", "or y"
    CHECK.due("feed", cells.feed(0x783c3161, 0x6e642079, 0x3c316f72, 0x20783d32, 0x6f722079), 20);
    CHECK.due("feed", cells.feed(0x3d320000, 0, 0, 0, 0), 40);
    cells.end(22);
    CHECK.due("read of x<1and y<1or x=2or y=2", cells.read(), 3);
    CHECK.due("holds(2, 5)", cells.holds(2, 1, 5, 1), 1);
    CHECK.due("holds(5, 2)", cells.holds(5, 1, 2, 1), 1);
    CHECK.due("holds(5, 5)", cells.holds(5, 1, 5, 1), 0);
    CHECK.due("holds(0, 0)", cells.holds(0, 1, 0, 1), 1);
    CHECK.due("holds(0, 1)", cells.holds(0, 1, 1, 1), 0);
    // each byte in turn, the highest bit of a number too
    for (int i = 0; i < 20; i++) {
      int[] words = {0x20202020, 0x20202020, 0x20202020, 0x20202020, 0x20202020};
      words[i / 4] ^= 0xa0 << 24 - 8 * (i % 4);
      CellDecide one = new CellDecide();
      one.feed(words[0], words[1], words[2], words[3], words[4]);
      CHECK.due("read with byte 128 at " + i, one.read(), -1000 - i);
      CHECK.due("fault with byte 128 at " + i, one.fault(), 1);
    }
  }

  private static void feedBehindTheTape() {
    CHECK.of("Promise 2", "how many it has.");
    CellDecide cells = new CellDecide();
    CHECK.due("feed", Check.feed(cells), 20);
    CHECK.due("feed", Check.feed(cells), 40);
    cells.end(27);
    CHECK.due("feed behind 27", Check.feed(cells), 47);
    cells.end(0);
    CHECK.due("feed behind 0", cells.feed(0x74722020, 0, 0, 0, 0), 20);
    cells.end(2);
    CHECK.due("feed behind 2", cells.feed(0x75652020, 0x20202020, 0x20202020, 0x20202020, 0x20202020), 22);
    CHECK.due("read of tr and ue", cells.read(), 0);
    CHECK.due("feed behind what was used up", Check.feed(cells), 20);
  }

  private static void feedTooMany() {
    CHECK.of("Promise 2", "IllegalStateException when there would be more than 600.");
    CellDecide cells = new CellDecide();
    Check.tape(cells, "true" + " ".repeat(577));
    CHECK.due("feed behind 581", Check.feed(cells), NONE);
    CHECK.due("581 bytes stay", Check.end(cells, 582), 0);
    CHECK.due("581 bytes stay", Check.end(cells, 581), 1);
    CHECK.due("end(580)", Check.end(cells, 580), 1);
    CHECK.due("feed behind 580", Check.feed(cells), 600);
    CHECK.due("feed behind 600", Check.feed(cells), NONE);
    CHECK.due("feed behind 600 again", Check.feed(cells), NONE);
    CHECK.due("600 bytes stay", Check.end(cells, 601), 0);
    CHECK.due("600 bytes stay", Check.end(cells, 600), 1);
    CHECK.due("they are read", cells.read(), 0);
  }

  private static void endCuts() {
    CHECK.of("Promise 3", "The tape is cut behind its first n bytes.");
    CellDecide cells = new CellDecide();
    Check.tape(cells, "truefalse");
    CHECK.due("end(9)", Check.end(cells, 9), 1);
    CHECK.due("end(4)", Check.end(cells, 4), 1);
    CHECK.due("end(5)", Check.end(cells, 5), 0);
    CHECK.due("read of true", cells.read(), 0);
    CHECK.due("decide of true", cells.decide(), 1);
    Check.tape(cells, "x<12 )");
    CHECK.due("end(3)", Check.end(cells, 3), 1);
    CHECK.due("read of x<1", cells.read(), 1);
    CHECK.due("x<1 at 1", cells.holds(1, 1, 0, 1), 0);
    Check.tape(cells, "x<1");
    CHECK.due("end(0)", Check.end(cells, 0), 1);
    CHECK.due("read of nothing", cells.read(), -1000);
  }

  private static void endOutside() {
    CHECK.of("Promise 3", "IllegalArgumentException: n is below 0, or more than it has.");
    CellDecide cells = new CellDecide();
    CHECK.due("end(-1) of an empty tape", Check.end(cells, -1), 0);
    CHECK.due("end(0) of an empty tape", Check.end(cells, 0), 1);
    CHECK.due("end(1) of an empty tape", Check.end(cells, 1), 0);
    Check.tape(cells, "y<1");
    for (int n : new int[] {LOWEST, -1, 4, 20, 600, 601, HIGHEST}) CHECK.due("end(" + n + ") of 3 bytes", Check.end(cells, n), 0);
    CHECK.due("the tape stays", Check.end(cells, 3), 1);
    CHECK.due("the tape stays", cells.read(), 2);
  }

  private static void readFree() {
    CHECK.of("Promise 4", "which variables are free (1 x, 2 y, 3 both; 0 none).");
    CellDecide cells = new CellDecide();
    CHECK.due("none", Check.read(cells, "1<2"), 0);
    CHECK.due("x", Check.read(cells, "1<x"), 1);
    CHECK.due("y", Check.read(cells, "1<y"), 2);
    CHECK.due("both", Check.read(cells, "y<x"), 3);
    CHECK.due("none after both", Check.read(cells, "some x. some y. y<x"), 0);
    CHECK.due("y alone", Check.read(cells, "some x. x<y"), 2);
  }

  private static void readOneBefore() {
    CHECK.of("Promise 4", "The one before is there no more.");
    CellDecide cells = new CellDecide();
    CHECK.due("read", Check.read(cells, "true"), 0);
    CHECK.due("decide", cells.decide(), 1);
    CHECK.due("read", Check.read(cells, "false"), 0);
    CHECK.due("decide", cells.decide(), 0);
    CHECK.due("read", Check.read(cells, "(some x. x^2=2) and y<1"), 2);
    CHECK.due("decide", cells.decide(), STATE);
    CHECK.due("solve", cells.solve(), 1);
    CHECK.due("read", Check.read(cells, "x<1 or x>2"), 1);
    CHECK.due("solve", cells.solve(), 2);
    CHECK.due("read", Check.read(cells, "true -> true and (all x. x<1)"), 0);
    CHECK.due("decide", cells.decide(), 0);
    CHECK.due("solve", cells.solve(), STATE);
  }

  private static void readFault() {
    CHECK.of("Promise 4", "-1000 less the place of a FAULT (there is none then).");
    String[] texts = {"", "x<1)", "x<1 and foo", "some x. some x", "x^4<1", "x<1 and (some x. true)", " ".repeat(600)};
    int[] places = {0, 3, 8, 13, 3, 14, 600};
    for (int i = 0; i < texts.length; i++) {
      CellDecide cells = new CellDecide();
      CHECK.due("read", Check.read(cells, "x<1"), 1);
      CHECK.due("solve", cells.solve(), 1);
      CHECK.due("read of " + texts[i], Check.read(cells, texts[i]), -1000 - places[i]);
      CHECK.due("decide after " + texts[i], cells.decide(), STATE);
      CHECK.due("holds after " + texts[i], cells.holds(0, 1, 0, 1), STATE);
      CHECK.due("solve after " + texts[i], cells.solve(), STATE);
      CHECK.due("the set stays after " + texts[i], cells.interval(0, 1), 1);
    }
  }

  private static void readAfterFaults() {
    CHECK.of("Promise 4", "The one before is there no more.", "nor is what a text with a fault had open, bound or counted");
    String[] faults = {"some 1. true", "all )", "some x. some x. true", "some x. all y. foo", "not not ((((", "[[[[[[[[[[[x", "x<1 and y^4<",
        "1<2 and 1<2 and 1<2 and 1<2 and 1<2 and 1<2", "x<y and (some x. true)", "x^4<1 or y<1"};
    CellDecide cells = new CellDecide();
    for (String fault : faults) {
      for (int i = 0; i < 3; i++) CHECK.due("fault in " + fault, Check.read(cells, fault) <= -1000 ? 1 : 0, 1);
      CHECK.due("ten open after " + fault, Check.read(cells, "((((((((some x. all y. true))))))))"), 0);
      CHECK.due("it is so", cells.decide(), 1);
      for (int i = 0; i < 3; i++) Check.read(cells, fault);
      CHECK.due("five comparisons after " + fault, Check.read(cells, "some y. y=x or y=1 or y=2 or y=3 or y=4"), 1);
      CHECK.due("solve after " + fault, cells.solve(), 1);
      for (int i = 0; i < 3; i++) Check.meet(cells, fault);
      CHECK.due("meet after " + fault, Check.meet(cells, "[[[[[[[[[[x]]]]]]]]]];y"), 1);
    }
  }

  private static void faultOfLatest() {
    CHECK.of("Promise 5", "The KIND of the FAULT of the latest read() or meet(); 0 without one.");
    CellDecide cells = new CellDecide();
    CHECK.due("before any", cells.fault(), 0);
    String[] texts = {"foo", "x", "some x. all x. true", "((((((((((( true", "(some x. true) or x<1", "x^4<1"};
    for (int kind = 1; kind <= 6; kind++) {
      Check.read(cells, texts[kind - 1]);
      CHECK.due("fault of " + texts[kind - 1], cells.fault(), kind);
      CHECK.due("and again", cells.fault(), kind);
      cells.decide();
      cells.solve();
      cells.holds(0, 1, 0, 1);
      Check.feed(cells);
      Check.end(cells, 900);
      CHECK.due("after other calls", cells.fault(), kind);
    }
    CHECK.due("read", Check.read(cells, "true"), 0);
    CHECK.due("fault of true", cells.fault(), 0);
    String[] curves = {"foo", "x", null, "[[[[[[[[[[[ x", null, "x^4;y"};
    for (int kind = 1; kind <= 6; kind++) {
      if (curves[kind - 1] == null) continue;
      Check.meet(cells, curves[kind - 1]);
      CHECK.due("fault of " + curves[kind - 1], cells.fault(), kind);
    }
    CHECK.due("meet", Check.meet(cells, "x;x"), MANY);
    CHECK.due("fault of many", cells.fault(), 0);
    Check.meet(cells, "x;");
    CHECK.due("read after a fault of meet", Check.read(cells, "true"), 0);
    CHECK.due("fault of the later one", cells.fault(), 0);
    Check.read(cells, "x");
    CHECK.due("meet after a fault of read", Check.meet(cells, "x;y"), 1);
    CHECK.due("fault of the later one", cells.fault(), 0);
  }

  private static void decideSo() {
    CHECK.of("Promise 6", "Whether the statement is so: 1, 0.");
    String[] so = {"true", "1<2", "some x. x^2=2", "all x. x^2>=0", "all x. some y. y>x", "some x. true", "all x. true", "all x. 0*x=0",
        "some x. x^3=2 and 100*x>125 and 100*x<126", "all x. all y. x^2+y^2>=2*x*y", "some x. some y. x^2+y^2=0"};
    String[] not = {"false", "2<1", "some x. x^2=-2", "all x. x^2>0", "some y. all x. y>x", "some x. false", "all x. false", "some x. 0*x=1",
        "some x. x^3=2 and 100*x>126", "all x. all y. x^2+y^2>2*x*y", "some x. some y. x^2+y^2<0"};
    for (String text : so) decide(text, 1);
    for (String text : not) decide(text, 0);
  }

  private static void decide(String text, int want) {
    CellDecide cells = new CellDecide();
    CHECK.due("read of " + text, Check.read(cells, text), 0);
    CHECK.due("decide of " + text, cells.decide(), want);
    CHECK.due("decide again of " + text, cells.decide(), want);
  }

  private static void decideState() {
    CHECK.of("Promise 6", "STATE (there is none, or a variable is free).");
    CellDecide cells = new CellDecide();
    CHECK.due("without a statement", cells.decide(), STATE);
    for (String text : new String[] {"x=x", "y=y", "x=y", "some x. y=y", "some y. 0*x=0", "true or x<1", "x<1)"}) {
      Check.read(cells, text);
      CHECK.due("decide of " + text, cells.decide(), STATE);
    }
    CHECK.due("meet", Check.meet(cells, "x;y"), 1);
    CHECK.due("after meet", cells.decide(), STATE);
  }

  private static void holdsWhere() {
    CHECK.of("Promise 7", "Whether the statement is so for x = xUp / xLow, y = yUp / yLow");
    holds("2*x=1 and 3*y=-1", 1, 2, -1, 3, 1);
    holds("2*x=1 and 3*y=-1", -1, 3, 1, 2, 0);
    holds("2*x=1 and 3*y=-1", 500, 1000, -333, 999, 1);
    holds("x<y", 999, 1000, 1000, 1000, 1);
    holds("x<y", 1000, 1000, 1000, 1000, 0);
    holds("x^2*y<x*y^2", -3, 2, 1, 2, 0);
    holds("x^2*y>x*y^2", -3, 2, 1, 2, 1);
    holds("x^3+y^3=0", -1000000, 1000, 1000, 1, 1);
    holds("some y. y^2=x and y!=0", 0, 7, 0, 0, 0);
    holds("some y. y^2=x and y!=0", 1, 1000, 0, 0, 1);
    holds("all x. x^2+x*y+1>0", 0, 0, 1999, 1000, 1);
    holds("all x. x^2+x*y+1>0", 0, 0, 2, 1, 0);
    holds("(some x. x^2=2) and y=3", 0, 0, 3, 1, 1);
    holds("some x. x^2=2", 0, 0, 0, 0, 1);
    holds("some x. x^2=-2", 0, 0, 0, 0, 0);
    holds("(all x. some y. x<y) and not (some y. all x. x<y)", 0, 0, 0, 0, 1);
  }

  private static void holds(String text, int xUp, int xLow, int yUp, int yLow, int want) {
    CellDecide cells = new CellDecide();
    Check.read(cells, text);
    CHECK.due("holds(" + xUp + ", " + xLow + ", " + yUp + ", " + yLow + ") of " + text, cells.holds(xUp, xLow, yUp, yLow), want);
  }

  private static void holdsNotFree() {
    CHECK.of("Promise 7", "(those that are not free count for nothing)");
    for (int wrong : new int[] {LOWEST, -1, 0, 1001, HIGHEST}) {
      holds("x<1", 0, 1, HIGHEST, wrong, 1);
      holds("x<1", 0, 1, LOWEST, wrong, 1);
      holds("y<1", HIGHEST, wrong, 0, 1, 1);
      holds("some y. y<x", 0, 1, HIGHEST, wrong, 1);
      holds("some x. x<x+y", LOWEST, wrong, 1, 1, 1);
      holds("1<2", HIGHEST, wrong, LOWEST, wrong, 1);
      holds("some x. x<x", HIGHEST, wrong, LOWEST, wrong, 0);
    }
  }

  private static void holdsState() {
    CHECK.of("Promise 7", "STATE (there is none)");
    CellDecide cells = new CellDecide();
    CHECK.due("without a statement", cells.holds(0, 1, 0, 1), STATE);
    Check.read(cells, "x<1)");
    CHECK.due("after a fault", cells.holds(0, 1, 0, 1), STATE);
    Check.meet(cells, "x;y");
    CHECK.due("after meet", cells.holds(0, 1, 0, 1), STATE);
  }

  private static void holdsOutside() {
    CHECK.of("Promise 7", "OUTSIDE (a lower number 1 .. 1000, an upper one at most 1000000 in size, of those that are free).");
    int[] lows = {LOWEST, -1000, -1, 0, 1, 1000, 1001, HIGHEST}, ups = {LOWEST, -1000001, -1000000, 0, 1000000, 1000001, HIGHEST};
    CellDecide x = new CellDecide(), y = new CellDecide(), both = new CellDecide();
    Check.read(x, "x=x");
    Check.read(y, "some x. x<y");
    Check.read(both, "x<y+1 or x>=y+1");
    for (int low : lows) {
      for (int up : ups) {
        int due = low >= 1 && low <= 1000 && up >= -1000000 && up <= 1000000 ? 1 : OUTSIDE;
        String at = " at " + up + " / " + low;
        CHECK.due("x" + at, x.holds(up, low, 0, 0), due);
        CHECK.due("y" + at, y.holds(0, 0, up, low), due);
        CHECK.due("x of both" + at, both.holds(up, low, 0, 1), due);
        CHECK.due("y of both" + at, both.holds(0, 1, up, low), due);
      }
    }
  }

  private static void solveFromNowOn() {
    CHECK.of("Promise 8", "THE SET is told from now on: how many INTERVALS.");
    CellDecide cells = new CellDecide();
    Check.read(cells, "x!=1 and x!=2");
    CHECK.due("nothing is told by read", cells.members(), STATE);
    CHECK.due("solve", cells.solve(), 3);
    CHECK.due("solve again", cells.solve(), 3);
    CHECK.due("read", Check.read(cells, "x=5"), 1);
    CHECK.due("the old set till then", cells.members(), MANY);
    CHECK.due("solve", cells.solve(), 1);
    CHECK.due("members", cells.members(), 1);
    CHECK.due("interval 1 is gone", cells.interval(1, 0), OUTSIDE);
    CHECK.due("read", Check.read(cells, "y<y"), 2);
    CHECK.due("solve", cells.solve(), 0);
    CHECK.due("members", cells.members(), 0);
    CHECK.due("interval 0 is gone", cells.interval(0, 0), OUTSIDE);
    CHECK.due("write of an empty set", cells.write(0, 0, 0), OUTSIDE);
    CHECK.due("writeLeast of an empty set", cells.writeLeast(0, 0), OUTSIDE);
    CHECK.due("read", Check.read(cells, "y=y"), 2);
    CHECK.due("solve", cells.solve(), 1);
  }

  private static void solveState() {
    CHECK.of("Promise 8", "STATE (there is no statement, or not just one variable is free; what was told stays).");
    CellDecide cells = new CellDecide();
    CHECK.due("without a statement", cells.solve(), STATE);
    for (String text : new String[] {"true", "x<y", "some x. x<1", "x<", ""}) {
      Check.read(cells, text);
      CHECK.due("solve of " + text, cells.solve(), STATE);
      CHECK.due("nothing is told by " + text, cells.interval(0, 0), STATE);
    }
    Check.read(cells, "x^2=2");
    CHECK.due("solve", cells.solve(), 2);
    for (String text : new String[] {"true", "x<y", "some x. x<1", "x<", ""}) {
      Check.read(cells, text);
      CHECK.due("solve of " + text, cells.solve(), STATE);
      CHECK.due("members stay after " + text, cells.members(), 2);
      CHECK.due("places stay after " + text, cells.interval(1, 3), 1);
      CHECK.due("least polynomials stay after " + text, Check.written(cells, cells.writeLeast(1, 0)), "t^2-2");
      CHECK.due("digits stay after " + text, Check.written(cells, cells.write(0, 1, 9)), "-1.414213563");
    }
  }

  private static void intervalEnds() {
    CHECK.of("Promise 9", "what = 0 its lower END (0 none, 1 not closed, 2 closed), 1 its upper one; 2, 3 DEGREE and PLACE of the lower END, "
        + "4, 5 of the upper one");
    CellDecide cells = solved("x>=1 and x^2<2 or x^3-3*x+1=0 and x<0 or x>2");
    int[][] due = {{2, 2, 3, 0, 3, 0}, {2, 1, 1, 0, 2, 1}, {1, 0, 1, 0, NONE, NONE}};
    for (int i = 0; i < due.length; i++) {
      for (int what = 0; what < 6; what++) CHECK.due("interval(" + i + ", " + what + ")", cells.interval(i, what), due[i][what]);
    }
    CHECK.due("interval(3, 0)", cells.interval(3, 0), OUTSIDE);
  }

  private static void intervalNone() {
    CHECK.of("Promise 9", "(NONE where there is none)");
    CellDecide cells = solved("x=x");
    int[] due = {0, 0, NONE, NONE, NONE, NONE};
    for (int what = 0; what < 6; what++) CHECK.due("interval(0, " + what + ")", cells.interval(0, what), due[what]);
  }

  private static void intervalOutside() {
    CHECK.of("Promise 9", "STATE (no set was told), OUTSIDE.");
    CellDecide cells = new CellDecide();
    CHECK.due("no set", cells.interval(0, 0), STATE);
    Check.read(cells, "x!=1");
    CHECK.due("no set yet", cells.interval(0, 0), STATE);
    cells.solve();
    for (int i : new int[] {LOWEST, -1, 2, HIGHEST}) CHECK.due("interval(" + i + ", 0)", cells.interval(i, 0), OUTSIDE);
    for (int what : new int[] {LOWEST, -1, 6, HIGHEST}) CHECK.due("interval(0, " + what + ")", cells.interval(0, what), OUTSIDE);
    CHECK.due("interval(1, 5)", cells.interval(1, 5), NONE);
    CHECK.due("interval(1, 3)", cells.interval(1, 3), 0);
  }

  private static void membersCount() {
    CHECK.of("Promise 10", "How many numbers are in THE SET");
    CHECK.due("none", solved("x<x").members(), 0);
    CHECK.due("one", solved("x=1").members(), 1);
    CHECK.due("two", solved("x^2=2").members(), 2);
    CHECK.due("three", solved("x^3-3*x+1=0").members(), 3);
    CHECK.due("the same twice", solved("x=1 or 2*x=2").members(), 1);
    CHECK.due("between two ends none", solved("x>1 and x<1").members(), 0);
  }

  private static void membersMany() {
    CHECK.of("Promise 10", "MANY, if there is no end of them. STATE.");
    CHECK.due("all", solved("x=x").members(), MANY);
    CHECK.due("below", solved("x<1").members(), MANY);
    CHECK.due("above", solved("x>=1").members(), MANY);
    CHECK.due("between", solved("x>1 and x<2").members(), MANY);
    CHECK.due("between roots of one polynomial", solved("x^2<2").members(), MANY);
    CHECK.due("numbers and a part", solved("x=1 or x=2 or x>3").members(), MANY);
    CHECK.due("a part and numbers", solved("x<=1 or x=2 or x=3").members(), MANY);
    CHECK.due("no set", new CellDecide().members(), STATE);
  }

  private static void meetFromNowOn() {
    CHECK.of("Promise 11", "The tape is two sums with ; between: their common POINTS are told from now on: how many");
    CellDecide cells = new CellDecide();
    CHECK.due("meet", Check.meet(cells, "x^3-x;y^3-y"), 9);
    CHECK.due("point 8", cells.point(8, 0), 1);
    CHECK.due("meet", Check.meet(cells, "\n- x + 1\n;\n- y\n"), 1);
    CHECK.due("point 0", cells.point(0, 0), 1);
    CHECK.due("point 1 is gone", cells.point(1, 0), OUTSIDE);
    CHECK.due("meet", Check.meet(cells, "1;x"), 0);
    CHECK.due("point 0 is gone", cells.point(0, 0), OUTSIDE);
    CHECK.due("meet", Check.meet(cells, "x*y-1;x^2+y^2-4"), 4);
    CHECK.due("degree", cells.point(3, 2), 4);
    // a statement and a set are left alone
    CHECK.due("read", Check.read(cells, "x<1 or x>2"), 1);
    CHECK.due("solve", cells.solve(), 2);
    CHECK.due("meet", Check.meet(cells, "x^2-3;y"), 2);
    CHECK.due("the set stays", cells.interval(1, 1), 0);
    CHECK.due("the statement stays", cells.holds(1, 1, 0, 0), 0);
    CHECK.due("the points stay", Check.written(cells, cells.writePoint(1, 0, 3)), "1.732");
  }

  private static void meetMany() {
    CHECK.of("Promise 11", "MANY, if some polynomial of degree 1 at least divides both (or both are 0; then what was told stays).");
    String[] many = {"0;0", "x-x;0*y", "0;x", "y^3;0", "x;x", "x;2*x", "x*y;x^2", "[x-y]*x;[x-y]*[y-1]", "x^2-1;[x+1]*y",
        "y^2-2;2*y^2-4", "x^2+1;[x^2+1]*y", "x^2+y^2+1;[x^2+y^2+1]*2", "x^3-2*x;[x^2-2]*[y-1]", "[x+y]^2;x^2-y^2", "x;x^3"};
    CellDecide cells = new CellDecide();
    for (String text : many) {
      CHECK.due("meet of " + text, Check.meet(cells, text), MANY);
      CHECK.due("nothing is told by " + text, cells.point(0, 0), STATE);
    }
    CHECK.due("meet", Check.meet(cells, "x^2-2;y-3"), 2);
    for (String text : many) {
      CHECK.due("meet of " + text, Check.meet(cells, text), MANY);
      CHECK.due("what was told stays after " + text, Check.written(cells, cells.writePointLeast(1, 0)), "t^2-2");
      CHECK.due("and its place", cells.point(1, 1), 1);
      CHECK.due("and the other axis", Check.written(cells, cells.writePoint(1, 1, 1)), "3.0");
    }
    CHECK.of("Promise 11", "MANY, if some polynomial of degree 1 at least divides both", "a number alone is none");
    String[] few = {"2;4", "1;0", "0;1", "2*x;2*y", "5;5*x", "x^2-2;x^2-3", "x^2+1;x^2+2"};
    int[] counts = {0, 0, 0, 1, 0, 0, 0};
    for (int i = 0; i < few.length; i++) CHECK.due("meet of " + few[i], Check.meet(new CellDecide(), few[i]), counts[i]);
  }

  private static void meetFault() {
    CHECK.of("Promise 11", "-1000 less the place of a FAULT (kinds 1, 2, 4, 6; what was told stays).");
    String[] marked = {"|foo;x", "x;|foo", "x;|1000", "x|!;y", "|", "|;x", "x|", "x;|", "x;y|;x", "x;y |)", "x|<1;y", "x;y|=0", "|true;y",
        "|(x);y", "|not x;y", "|some x. x;y", "x|.;y", "x |y;y", "[x;".replace(";", "|;"), "[[[[[[[[[[|[x]]]]]]]]]]];y", "x;[[[[[[[[[[|[y]]]]]]]]]]]",
        "x^4|;y", "x;y^4|", "x;1^4 |"};
    int[] kinds = {1, 1, 1, 1, 2, 2, 2, 2, 2, 2, 2, 2, 2, 2, 2, 2, 2, 2, 2, 4, 4, 6, 6, 6};
    CellDecide cells = new CellDecide();
    for (int i = 0; i < marked.length; i++) {
      meetFault(cells, marked[i], kinds[i]);
      CHECK.due("nothing is told by " + marked[i], cells.point(0, 0), STATE);
    }
    CHECK.due("meet", Check.meet(cells, "x^2-2;y-3"), 2);
    for (int i = 0; i < marked.length; i++) {
      meetFault(cells, marked[i], kinds[i]);
      CHECK.due("what was told stays after " + marked[i], Check.written(cells, cells.writePoint(1, 0, 4)), "1.4142");
    }
    CHECK.due("ten [ are not too many", Check.meet(cells, "[[[[[[[[[[x]]]]]]]]]];y"), 1);
    CHECK.due("six signs are none of comparisons", Check.meet(cells, "x-1-1-1-1-1-1;y"), 1);
  }

  private static void meetFault(CellDecide cells, String marked, int kind) {
    CHECK.due("meet of " + marked, Check.meet(cells, marked.replace("|", "")), -1000 - marked.indexOf('|'));
    CHECK.due("fault of " + marked, cells.fault(), kind);
  }

  private static void pointWhat() {
    CHECK.of("Promise 12", "what = 0, 1 DEGREE and PLACE of x, 2, 3 of y.");
    CellDecide cells = met("x^3-3*x+1;y^2-2");
    for (int i = 0; i < 6; i++) {
      int[] due = {3, i / 2, 2, i % 2};
      for (int what = 0; what < 4; what++) CHECK.due("point(" + i + ", " + what + ")", cells.point(i, what), due[what]);
    }
  }

  private static void pointRefusals() {
    CHECK.of("Promise 12", "STATE (none were told), OUTSIDE.");
    CellDecide cells = new CellDecide();
    CHECK.due("none", cells.point(0, 0), STATE);
    Check.meet(cells, "x;x");
    CHECK.due("after many", cells.point(0, 0), STATE);
    Check.meet(cells, "x;");
    CHECK.due("after a fault", cells.point(0, 0), STATE);
    CHECK.due("meet", Check.meet(cells, "x^2-1;y"), 2);
    for (int i : new int[] {LOWEST, -1, 2, HIGHEST}) CHECK.due("point(" + i + ", 0)", cells.point(i, 0), OUTSIDE);
    for (int what : new int[] {LOWEST, -1, 4, HIGHEST}) CHECK.due("point(0, " + what + ")", cells.point(0, what), OUTSIDE);
    CHECK.due("point(1, 3)", cells.point(1, 3), 0);
  }

  private static void write(String text, int i, int end, int digits, String want) {
    CellDecide cells = solved(text);
    CHECK.due("write(" + i + ", " + end + ", " + digits + ") of " + text, Check.written(cells, cells.write(i, end, digits)), want);
  }

  private static void writeRoundedDown() {
    CHECK.of("Promise 13", "rounded down (towards minus infinity)");
    write("x^2=2", 1, 0, 0, "1");
    write("x^2=2", 1, 1, 1, "1.4");
    write("x^2=2", 1, 0, 5, "1.41421");
    write("x^2=2", 0, 0, 0, "-2");
    write("x^2=2", 0, 1, 1, "-1.5");
    write("x^2=2", 0, 0, 5, "-1.41422");
    write("3*x=2", 0, 0, 4, "0.6666");
    write("3*x=-2", 0, 0, 4, "-0.6667");
    // what needs no more digits is not rounded
    write("x=7", 0, 0, 0, "7");
    write("x=-7", 0, 0, 0, "-7");
    write("x=-7", 0, 0, 2, "-7.00");
    write("8*x=-1", 0, 0, 3, "-0.125");
    write("8*x=-1", 0, 0, 4, "-0.1250");
    write("8*x=-1", 0, 0, 2, "-0.13");
    write("8*x=1", 0, 0, 2, "0.12");
    write("500*x=999", 0, 0, 2, "1.99");
    write("500*x=-999", 0, 0, 2, "-2.00");
  }

  private static void writeSign() {
    CHECK.of("Promise 13", "- if what is written is below 0, at least one digit");
    write("x=0", 0, 0, 0, "0");
    write("x=0", 0, 0, 2, "0.00");
    write("999*x=1", 0, 0, 0, "0");
    write("999*x=1", 0, 0, 2, "0.00");
    write("999*x=1", 0, 0, 3, "0.001");
    write("999*x=-1", 0, 0, 0, "-1");
    write("999*x=-1", 0, 0, 1, "-0.1");
    write("999*x=-1", 0, 0, 2, "-0.01");
    write("999*x=-1", 0, 0, 3, "-0.002");
    // 999^4 and what is one over it
    write("some y. y=999 and x=999*y^3", 0, 0, 0, "996005996001");
    write("some y. y=-999 and x=999*y^3", 0, 0, 1, "-996005996001.0");
    write("some y. 999*y=1 and 999*x=y^3", 0, 0, 11, "0.00000000000");
    write("some y. 999*y=1 and 999*x=y^3", 0, 0, 15, "0.000000000001004");
    write("some y. 999*y=-1 and 999*x=y^3", 0, 0, 11, "-0.00000000001");
    write("some y. 999*y=-1 and 999*x=y^3", 0, 0, 15, "-0.000000000001005");
  }

  private static void writeDigits() {
    CHECK.of("Promise 13", "with so many digits behind the point (0 .. 60), [..] if digits are not 0, . and these.");
    String root = "1.414213562373095048801688724209698078569671875376948073176679";
    CellDecide cells = solved("x^2=2 and x>0");
    CHECK.due("0 digits", Check.written(cells, cells.write(0, 0, 0)), "1");
    for (int digits = 1; digits <= 60; digits++) {
      CHECK.due("length of " + digits, cells.write(0, 0, digits), digits + 2);
      CHECK.due(digits + " digits", Check.written(cells, cells.write(0, 0, digits)), root.substring(0, digits + 2));
    }
    write("3*x=1", 0, 0, 60, "0." + "3".repeat(60));
    write("3*x=-1", 0, 1, 60, "-0." + "3".repeat(59) + "4");
    write("x=999", 0, 0, 60, "999." + "0".repeat(60));
    write("x>1 and x<2", 0, 0, 1, "1.0");
    write("x>1 and x<2", 0, 1, 1, "2.0");
  }

  private static void writeRefusals() {
    CHECK.of("Promise 13", "STATE (no set was told), OUTSIDE (there is no such END, too).");
    CellDecide cells = new CellDecide();
    CHECK.due("no set", cells.write(0, 0, 0), STATE);
    Check.read(cells, "x<1 or x=2 or x>3");
    CHECK.due("no set yet", cells.write(0, 0, 0), STATE);
    CHECK.due("solve", cells.solve(), 3);
    for (int i : new int[] {LOWEST, -1, 3, HIGHEST}) CHECK.due("write(" + i + ", 0, 0)", cells.write(i, 0, 0), OUTSIDE);
    for (int end : new int[] {LOWEST, -1, 2, HIGHEST}) CHECK.due("write(1, " + end + ", 0)", cells.write(1, end, 0), OUTSIDE);
    for (int digits : new int[] {LOWEST, -1, 61, HIGHEST}) CHECK.due("write(1, 0, " + digits + ")", cells.write(1, 0, digits), OUTSIDE);
    CHECK.due("no lower end", cells.write(0, 0, 0), OUTSIDE);
    CHECK.due("no upper end", cells.write(2, 1, 0), OUTSIDE);
    CHECK.due("nothing was written", cells.at(0), NONE);
    CHECK.due("upper end of the first", cells.write(0, 1, 0), 1);
    CHECK.due("lower end of the last", cells.write(2, 0, 60), 62);
  }

  private static void least(String text, String want) {
    CellDecide cells = solved(text);
    int length = cells.writeLeast(0, 0);
    CHECK.due("length of writeLeast of " + text, length, want.length());
    CHECK.due("writeLeast of " + text, Check.written(cells, length), want);
  }

  private static void leastForms() {
    CHECK.of("Promise 14", "from the highest power to the lowest one, what has the coefficient 0 left out");
    least("x^3=2", "t^3-2");
    least("x^3+2*x=5", "t^3+2*t-5");
    least("x^3+2*x^2=5", "t^3+2*t^2-5");
    least("x=0", "t");
    least("some y. y^3=2 and [x-y]^3=3", "t^9-15*t^6-87*t^3-125");
    CHECK.of("Promise 14", "+ or - between the others (no blanks)");
    least("3*x^3-2*x^2+4*x=7", "3*t^3-2*t^2+4*t-7");
    least("3*x^3+2*x^2-4*x=-7", "3*t^3+2*t^2-4*t+7");
    CHECK.of("Promise 14", "the size of the coefficient, but a 1 only at the power 0");
    least("x^3+x^2+x=-2", "t^3+t^2+t+2");
    least("x^3-x^2-x=-2", "t^3-t^2-t+2");
    least("x^2+x=1", "t^2+t-1");
    least("x^2-3*x=-1", "t^2-3*t+1");
    least("x=1", "t-1");
    least("x=-1", "t+1");
    least("11*x=1", "11*t-1");
    least("2*x=-11", "2*t+11");
    CHECK.of("Promise 14", "* between it and t; t, and ^ and the power, if that is above 1.");
    least("2*x=1", "2*t-1");
    least("999*x^3=-998*x^2+997*x+995", "999*t^3+998*t^2-997*t-995");
    least("2*x^2+2*x=1", "2*t^2+2*t-1");
    least("some y. y=999 and x=999*y^3", "t-996005996001");
    least("some y. 999*y=1 and 999*x=y^3", "996005996001*t-1");
    CHECK.of("Promise 14", "- ahead of the first one, if it is below 0", "in least form it never is");
    least("-5*x=3", "5*t+3");
    least("-x^2+3>0", "t^2-3");
  }

  private static void leastRefusals() {
    CHECK.of("Promise 14", "STATE, OUTSIDE.");
    CellDecide cells = new CellDecide();
    CHECK.due("no set", cells.writeLeast(0, 0), STATE);
    Check.read(cells, "x<1 or x=2 or x>3");
    CHECK.due("no set yet", cells.writeLeast(0, 0), STATE);
    CHECK.due("solve", cells.solve(), 3);
    for (int i : new int[] {LOWEST, -1, 3, HIGHEST}) CHECK.due("writeLeast(" + i + ", 0)", cells.writeLeast(i, 0), OUTSIDE);
    for (int end : new int[] {LOWEST, -1, 2, HIGHEST}) CHECK.due("writeLeast(1, " + end + ")", cells.writeLeast(1, end), OUTSIDE);
    CHECK.due("no lower end", cells.writeLeast(0, 0), OUTSIDE);
    CHECK.due("no upper end", cells.writeLeast(2, 1), OUTSIDE);
    CHECK.due("nothing was written", cells.at(0), NONE);
    CHECK.due("upper end of the first", Check.written(cells, cells.writeLeast(0, 1)), "t-1");
    CHECK.due("lower end of the last", Check.written(cells, cells.writeLeast(2, 0)), "t-3");
  }

  private static void writePoints() {
    CHECK.of("Promise 15", "As write(), of point i: its x (axis 0), or y (1).");
    CellDecide cells = met("x^2-2;3*y+1");
    String[][] due = {{"-2", "-1", "-1.41422", "-0.33334"}, {"1", "-1", "1.41421", "-0.33334"}};
    for (int i = 0; i < 2; i++) {
      for (int axis = 0; axis < 2; axis++) {
        CHECK.due("writePoint(" + i + ", " + axis + ", 0)", Check.written(cells, cells.writePoint(i, axis, 0)), due[i][axis]);
        CHECK.due("writePoint(" + i + ", " + axis + ", 5)", Check.written(cells, cells.writePoint(i, axis, 5)), due[i][2 + axis]);
      }
    }
    CHECK.due("60 digits of x", Check.written(cells, cells.writePoint(1, 0, 60)), "1.414213562373095048801688724209698078569671875376948073176679");
    CHECK.due("60 digits of y", Check.written(cells, cells.writePoint(1, 1, 60)), "-0." + "3".repeat(59) + "4");
    CellDecide origin = met("x;y");
    CHECK.due("0 with no digits", Check.written(origin, origin.writePoint(0, 0, 0)), "0");
    CHECK.due("0 with two digits", Check.written(origin, origin.writePoint(0, 1, 2)), "0.00");
  }

  private static void writePointRefusals() {
    CHECK.of("Promise 15", "STATE (none were told), OUTSIDE.");
    CellDecide cells = new CellDecide();
    CHECK.due("none", cells.writePoint(0, 0, 0), STATE);
    Check.meet(cells, "x;x");
    CHECK.due("after many", cells.writePoint(0, 0, 0), STATE);
    CHECK.due("meet", Check.meet(cells, "x^2-1;y"), 2);
    for (int i : new int[] {LOWEST, -1, 2, HIGHEST}) CHECK.due("writePoint(" + i + ", 0, 0)", cells.writePoint(i, 0, 0), OUTSIDE);
    for (int axis : new int[] {LOWEST, -1, 2, HIGHEST}) CHECK.due("writePoint(0, " + axis + ", 0)", cells.writePoint(0, axis, 0), OUTSIDE);
    for (int digits : new int[] {LOWEST, -1, 61, HIGHEST}) CHECK.due("writePoint(0, 0, " + digits + ")", cells.writePoint(0, 0, digits), OUTSIDE);
    CHECK.due("nothing was written", cells.at(0), NONE);
    CHECK.due("writePoint(1, 1, 60)", cells.writePoint(1, 1, 60), 62);
  }

  private static void writePointLeasts() {
    CHECK.of("Promise 16", "As writeLeast(), of point i. STATE, OUTSIDE.");
    CellDecide cells = new CellDecide();
    CHECK.due("none", cells.writePointLeast(0, 0), STATE);
    Check.meet(cells, "x;x");
    CHECK.due("after many", cells.writePointLeast(0, 0), STATE);
    CHECK.due("meet", Check.meet(cells, "-2*x^2-2*x+4;-3*y^2+y+1"), 4);
    String x = "t+2", y = "3*t^2-t-1";
    CHECK.due("length of x", cells.writePointLeast(0, 0), x.length());
    CHECK.due("x", Check.written(cells, cells.writePointLeast(0, 0)), x);
    CHECK.due("length of y", cells.writePointLeast(0, 1), y.length());
    CHECK.due("y", Check.written(cells, cells.writePointLeast(0, 1)), y);
    CHECK.due("x of the last", Check.written(cells, cells.writePointLeast(3, 0)), "t-1");
    for (int i : new int[] {LOWEST, -1, 4, HIGHEST}) CHECK.due("writePointLeast(" + i + ", 0)", cells.writePointLeast(i, 0), OUTSIDE);
    for (int axis : new int[] {LOWEST, -1, 2, HIGHEST}) CHECK.due("writePointLeast(0, " + axis + ")", cells.writePointLeast(0, axis), OUTSIDE);
  }

  private static void writingTellsLength() {
    CHECK.of("2 NUMBERS, SETS", "writing: how many bytes, read by at().");
    CellDecide cells = solved("x^2=2");
    Check.meet(cells, "2*x-1;y^2-3");
    length(cells, "write(0, 0, 0)", cells.write(0, 0, 0), 2);
    length(cells, "write(1, 0, 0)", cells.write(1, 0, 0), 1);
    length(cells, "write(0, 1, 60)", cells.write(0, 1, 60), 63);
    length(cells, "writeLeast(1, 1)", cells.writeLeast(1, 1), 5);
    length(cells, "writePoint(0, 1, 60)", cells.writePoint(0, 1, 60), 63);
    length(cells, "writePoint(1, 0, 1)", cells.writePoint(1, 0, 1), 3);
    length(cells, "writePointLeast(0, 0)", cells.writePointLeast(0, 0), 5);
    length(cells, "writePointLeast(0, 1)", cells.writePointLeast(0, 1), 5);
  }

  private static void length(CellDecide cells, String call, int got, int want) {
    int bytes = 0;
    while (cells.at(bytes) != NONE) bytes++;
    CHECK.due(call, got, want);
    CHECK.due("bytes of " + call, bytes, want);
  }

  private static void atBytes() {
    CHECK.of("Promise 17", "Byte i of what was written last; NONE.");
    CellDecide cells = solved("x^2=2");
    CHECK.due("nothing was written", cells.at(0), NONE);
    CHECK.due("write", cells.write(0, 0, 1), 4);
    int[] due = {'-', '1', '.', '5', NONE};
    for (int i = 0; i < due.length; i++) CHECK.due("at(" + i + ")", cells.at(i), due[i]);
    for (int i : new int[] {LOWEST, -1, 5, 600, HIGHEST}) CHECK.due("at(" + i + ")", cells.at(i), NONE);
    CHECK.due("write a longer one", cells.write(0, 0, 60), 63);
    CHECK.due("at(62)", cells.at(62), '0');
    CHECK.due("at(63)", cells.at(63), NONE);
    CHECK.due("write a shorter one", cells.writeLeast(0, 0), 5);
    CHECK.due("at(4)", cells.at(4), '2');
    CHECK.due("at(5)", cells.at(5), NONE);
    CHECK.due("meet", Check.meet(cells, "x-7;y-8"), 1);
    CHECK.due("writePoint", cells.writePoint(0, 1, 0), 1);
    CHECK.due("at(0)", cells.at(0), '8');
    CHECK.due("at(1)", cells.at(1), NONE);
    CHECK.due("writePointLeast", cells.writePointLeast(0, 0), 3);
    CHECK.due("at(2)", cells.at(2), '7');
  }

  private static void atStays() {
    CHECK.of("Promise 17", "what was written last", "other calls write nothing");
    CellDecide cells = solved("x=5");
    CHECK.due("write", cells.write(0, 0, 0), 1);
    cells.write(0, 0, 61);
    cells.writeLeast(0, 2);
    cells.writePoint(0, 0, 0);
    cells.writePointLeast(0, 0);
    CHECK.due("after refused calls", cells.at(0), '5');
    Check.read(cells, "x<6");
    cells.solve();
    cells.holds(1, 1, 1, 1);
    cells.interval(0, 2);
    cells.members();
    cells.fault();
    Check.meet(cells, "x;y");
    cells.point(0, 0);
    Check.read(cells, "foo");
    CHECK.due("after other calls", cells.at(0), '5');
    CHECK.due("after other calls", cells.at(1), NONE);
  }

  private static void calls512() {
    CHECK.of("What it is", "An object is used for at most 512 calls after it has been made");
    CellDecide cells = new CellDecide();
    // 63 times eight calls, then eight more
    for (int round = 0; round < 64; round++) {
      int n = round % 2 == 0 ? 2 : 3;
      CHECK.due("feed", cells.feed(0x785e323d, ('0' + n << 24) + 0x202020, 0x20202020, 0x20202020, 0x20202020), 20);
      CHECK.due("read", cells.read(), 1);
      CHECK.due("solve", cells.solve(), 2);
      CHECK.due("place", cells.interval(1, 3), 1);
      CHECK.due("write", cells.write(1, 0, 60), 62);
      CHECK.due("a digit", cells.at(2), n == 2 ? '4' : '7');
      CHECK.due("least", cells.writeLeast(0, 0), 5);
      CHECK.due("its last byte", cells.at(4), '0' + n);
    }
  }
}
