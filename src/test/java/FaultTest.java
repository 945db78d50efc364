/** Promises 4 and 5: read and fault, and the faults of meet (11). */
public final class FaultTest {
  private static final Check CHECK = new Check();

  public static void main(String[] args) {
    freeVariables();
    noTokens();
    misplaced();
    boundAlready();
    tooMany();
    boundAndFree();
    tooGreat();
    firstFromTheLeft();
    curves();
    latestOnly();
    CHECK.finish();
  }

  private static void good(String text, int free) {
    CellDecide cells = new CellDecide();
    CHECK.due("read of " + text, Check.read(cells, text), free);
    CHECK.due("fault of " + text, cells.fault(), 0);
  }

  private static void bad(String text, int kind, int place) {
    CellDecide cells = new CellDecide();
    CHECK.due("read of " + text, Check.read(cells, text), -1000 - place);
    CHECK.due("fault of " + text, cells.fault(), kind);
    CHECK.due("holds after " + text, cells.holds(0, 1, 0, 1), CellDecide.STATE);
  }

  private static void badCurves(String text, int kind, int place) {
    CellDecide cells = new CellDecide();
    CHECK.due("meet of " + text, Check.meet(cells, text), -1000 - place);
    CHECK.due("fault of " + text, cells.fault(), kind);
    CHECK.due("point after " + text, cells.point(0, 0), CellDecide.STATE);
  }

  private static String times(String part, int count) {
    return part.repeat(count);
  }

  private static void freeVariables() {
    good("true", 0);
    good("x=x", 1);
    good("0*x<1", 1);
    good("y!=2", 2);
    good("x+y<1", 3);
    good("x<1 and y<1", 3);
    good("some x. x<y", 2);
    good("all y. x>=y", 1);
    good("some x. all y. x>=y", 0);
    good("(some x. x<1) or (all x. x>1)", 0);
    good("some x. true", 0);
    good("\nnot\nx\n<\n1\n", 1);
    good("x<-1", 1);
    good("x=-1", 1);
    good("-x+-1<0".replace("+-1", "+[-1]"), 1);
    good("1<2->2<1", 0);
    good("x<1==y<1", 3);
    good("x^0=1", 1);
    good("007=7", 0);
  }

  private static void noTokens() {
    bad("foo", 1, 0);
    bad("X<1", 1, 0);
    bad("x<1 \t", 1, 4);
    bad("x<1\r", 1, 3);
    bad("x ! 1", 1, 2);
    bad("x<1000", 1, 2);
    bad("x<0001", 1, 2);
    bad("xy<1", 1, 0);
    bad("truefalse", 1, 0);
    bad("somex. x<1", 1, 0);
    bad("x<1 an y<1", 1, 4);
    bad("x<1,", 1, 3);
    bad("x&1", 1, 1);
    bad("x<1/2", 1, 3);
    bad("{x<1}", 1, 0);
    bad("not !", 1, 4);
    bad("falsee", 1, 0);
  }

  private static void misplaced() {
    bad("", 2, 0);
    bad("  \n", 2, 3);
    bad("x", 2, 1);
    bad("x  ", 2, 3);
    bad("x<", 2, 2);
    bad("x<1)", 2, 3);
    bad("(x<1", 2, 4);
    bad("2x<1", 2, 1);
    bad("x2<1", 2, 1);
    bad("x^2^2<1", 2, 3);
    bad("x^y<1", 2, 2);
    bad("x^-1<1", 2, 2);
    bad("--x<1", 2, 1);
    bad("x--1<0", 2, 2);
    bad("x*-1<0", 2, 2);
    bad("+x<0", 2, 0);
    bad("x<y<1", 2, 3);
    bad("x==1", 2, 1);
    bad("x->1", 2, 1);
    bad("x=>1", 2, 2);
    bad("true==true==true", 2, 10);
    bad("true->true->true", 2, 10);
    bad("not some x. x<1", 2, 4);
    bad("x<1 and some y. y<1", 2, 8);
    bad("true -> some x. x<1", 2, 8);
    bad("(x)<1", 2, 2);
    bad("(x+1)*2<1", 2, 4);
    bad("[x<1]", 2, 2);
    bad("[x", 2, 2);
    bad("[x)<1", 2, 2);
    bad("[]<1", 2, 1);
    bad("()", 2, 1);
    bad("some x x<1", 2, 7);
    bad("some 1. true", 2, 5);
    bad("some true. true", 2, 5);
    bad("some x.", 2, 7);
    bad("some", 2, 4);
    bad("x;y", 2, 1);
    bad("x<1;", 2, 3);
    bad("true<1", 2, 4);
    bad("1<true", 2, 2);
    bad("true true", 2, 5);
    bad("not", 2, 3);
    bad("and true", 2, 0);
    bad("true or", 2, 7);
    bad(".", 2, 0);
    bad("^2<1", 2, 0);
    bad("x<1 .", 2, 4);
  }

  private static void boundAlready() {
    bad("some x. some x. x<1", 3, 13);
    bad("all x. (true and (all x. true))", 3, 22);
    bad("some x. some y. (all x. true)", 3, 21);
    bad("some y. all y", 3, 12);
    good("(some x. true) and (some x. true)", 0);
    good("some x. (some y. true) or (all y. y<x)", 0);
  }

  private static void tooMany() {
    // 120 tokens, then 121
    good("not true" + times(" and true", 59), 0);
    bad("true" + times(" and true", 60), 4, 4 + 9 * 59 + 5);
    bad("not true" + times(" and true", 59) + " and", 4, 8 + 9 * 59 + 1);
    bad("not true" + times(" and true", 59) + " foo", 1, 8 + 9 * 59 + 1);
    bad("not true" + times(" and true", 59) + " true", 2, 8 + 9 * 59 + 1);
    good("1<2" + times(" and 1<2", 4), 0);
    bad("1<2" + times(" and 1<2", 5), 4, 3 + 8 * 4 + 6);
    good(times("(", 10) + "true" + times(")", 10), 0);
    bad(times("(", 11) + "true" + times(")", 11), 4, 10);
    good(times("not ", 10) + "true", 0);
    bad(times("not ", 11) + "true", 4, 40);
    good(times("[", 10) + "x" + times("]", 10) + "<1", 1);
    bad(times("[", 11) + "x" + times("]", 11) + "<1", 4, 10);
    good("some x. all y. not (" + times("[", 6) + "x" + times("]", 6) + "<y)", 0);
    bad("some x. all y. not (" + times("[", 7) + "x" + times("]", 7) + "<y)", 4, 26);
    bad(times("(", 9) + "some x. all y. true" + times(")", 9), 4, 17);
    bad(times("(", 10) + "some x. true" + times(")", 10), 4, 10);
    // a 'not' is open no more behind what it is of
    good(times("not ", 10) + "true and " + times("not ", 10) + "true", 0);
    good("(" + times("not ", 9) + "1<2) and " + times("(", 10) + "true" + times(")", 10), 0);
    good("not (" + times("not ", 8) + "true and (true and not true))", 0);
    bad("not (" + times("not ", 9) + "true)", 4, 37);
  }

  private static void boundAndFree() {
    bad("(some x. x<1) and x<1", 5, 6);
    bad("x<1 and (some x. x<1)", 5, 14);
    bad("(all y. y<1) and (some x. x<1) and x<1 and y<1", 5, 5);
    bad("(all y. y<1) and (some x. x<1) and x<1", 5, 23);
    bad("(some x. true) and (some y. x<1)", 5, 6);
    bad("(some x. x<1) and x^4<1", 5, 6);
    bad("(some x. x^4<1) and x<1", 5, 6);
  }

  private static void tooGreat() {
    good("x^3+y^3<999", 3);
    good("x<-999", 1);
    bad("999+1<0", 6, 5);
    bad("x+999<-1", 6, 5);
    bad("x<1 and 999*2<0", 6, 13);
    bad("x*y^2*x<1", 6, 7);
    bad("x^4<1", 6, 3);
    bad("x^999<1", 6, 5);
    bad("1^4=1", 6, 3);
    bad("0*x^4=0", 6, 5);
    bad("x^2*y^2*0=0", 6, 9);
    bad("0=0*[x^2*y^2]", 6, 1);
    good("0*x^2*y^2=0", 3);
    bad("[x^2]^2=0", 6, 7);
    bad("[x^2-x^2+x^2]^3=0", 6, 15);
    good("[x^2-x^2+x]^3=0", 1);
    good("x*x*y=1", 3);
    good("[x+1]^3=0", 1);
    bad("[x+10]^3=0", 6, 8);
    good("999*999-999*999=0", 0);
    bad("999*999*2-999*999*2=0", 6, 19);
    good("999*999+999*999-999*999-999*999=0", 0);
    bad("999*999+999*999=999*999+999*999", 6, 15);
    bad("[999*999+999*999]*0=0", 6, 19);
    good("999^2*0=0", 0);
    bad("999^3*0=0", 6, 7);
    good("100^3*0=0", 0);
    bad("101^3*0=0", 6, 7);
    bad("[999*999+2*998]^2*0=0", 6, 19);
    good("100*100*100*0=0", 0);
    bad("100*100*101*0=0", 6, 13);
    bad("101*100*100*0=0", 6, 13);
    good("0*101*100*100=0", 0);
    bad("x<1 and x^4<1 and 1000-1<x".replace("1000", "999*2"), 6, 11);
    good("500*x<-499*x", 1);
    bad("500*x<-500*x", 6, 5);
    bad("some x. 999*x<-x", 6, 13);
  }

  private static void firstFromTheLeft() {
    bad("x^4<1 and foo", 1, 10);
    bad("x^4<1 )", 2, 6);
    bad("some x. foo. some x", 1, 8);
    bad("some x. x < ) foo", 2, 12);
    bad("some x. some x foo", 3, 13);
    bad(times("(", 11) + "foo", 4, 10);
    bad("1<1000 )", 1, 2);
    bad(") 1000", 2, 0);
  }

  private static void curves() {
    badCurves("", 2, 0);
    badCurves("x", 2, 1);
    badCurves("x;", 2, 2);
    badCurves(";x", 2, 0);
    badCurves("x;y;x", 2, 3);
    badCurves("x;y )", 2, 4);
    badCurves("x<1;y", 2, 1);
    badCurves("x;y=0", 2, 3);
    badCurves("true;y", 2, 0);
    badCurves("(x);y", 2, 0);
    badCurves("x;foo", 1, 2);
    badCurves("x;1000", 1, 2);
    badCurves(times("[", 11) + "x", 4, 10);
    badCurves("x" + times("+x", 58) + ";y+x+x", 4, 120);
    badCurves("x^4;y", 6, 3);
    badCurves("x^4 ; y^4", 6, 4);
    badCurves("x;y^4", 6, 5);
    badCurves("x ; y^4  ", 6, 9);
    badCurves("999*2;y", 6, 5);
    badCurves("x;999+y+1", 6, 9);
    badCurves("x^4;foo", 1, 4);
    badCurves("x^4;y z", 1, 6);
    badCurves("x^4;y x", 2, 6);
  }

  private static void latestOnly() {
    CellDecide cells = new CellDecide();
    CHECK.due("read", Check.read(cells, "x<1"), 1);
    CHECK.due("meet", Check.meet(cells, "x;foo"), -1002);
    CHECK.due("fault of meet", cells.fault(), 1);
    CHECK.due("the statement stays", cells.solve(), 1);
    CHECK.due("fault of meet stays", cells.fault(), 1);
    CHECK.due("meet", Check.meet(cells, "x;x"), CellDecide.MANY);
    CHECK.due("no fault", cells.fault(), 0);
    CHECK.due("read", Check.read(cells, "x<"), -1002);
    CHECK.due("fault of read", cells.fault(), 2);
    CHECK.due("the statement is gone", cells.solve(), CellDecide.STATE);
    CHECK.due("what was told stays", cells.interval(0, 1), 1);
    CHECK.due("read", Check.read(cells, "true"), 0);
    CHECK.due("no fault", cells.fault(), 0);
  }
}
