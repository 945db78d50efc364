/** Promises 11, 12, 15 and 16: meet, point, writePoint, writePointLeast. */
public final class MeetTest {
  private static final Check CHECK = new Check();

  public static void main(String[] args) {
    points();
    many();
    noPoints();
    digits();
    refusals();
    whatStays();
    CHECK.finish();
  }

  private static void meet(String text, String want) {
    CHECK.due("meet of " + text, Check.points(new CellDecide(), text), want);
  }

  private static void points() {
    meet("x;y", "1 (t#0, t#0)");
    meet("x-1;y+2", "1 (t-1#0, t+2#0)");
    meet("x^2+y^2-1;x-y", "2 (2*t^2-1#0, 2*t^2-1#0) (2*t^2-1#1, 2*t^2-1#1)");
    meet("x^2-2;y^2-3", "4 (t^2-2#0, t^2-3#0) (t^2-2#0, t^2-3#1) (t^2-2#1, t^2-3#0) (t^2-2#1, t^2-3#1)");
    meet("x^2-2;x-y", "2 (t^2-2#0, t^2-2#0) (t^2-2#1, t^2-2#1)");
    meet("y-x^2;y-2", "2 (t^2-2#0, t-2#0) (t^2-2#1, t-2#0)");
    meet("y-x^2;y", "1 (t#0, t#0)");
    meet("x*y;x+y^2", "1 (t#0, t#0)");
    meet("x*y;x+y^2-1", "3 (t#0, t+1#0) (t#0, t-1#0) (t-1#0, t#0)");
    meet("x*y-1;x^2+y^2-4", "4 (t^4-4*t^2+1#0, t^4-4*t^2+1#1) (t^4-4*t^2+1#1, t^4-4*t^2+1#0)"
        + " (t^4-4*t^2+1#2, t^4-4*t^2+1#3) (t^4-4*t^2+1#3, t^4-4*t^2+1#2)");
    meet("x*y-1;x*y-2*x+1", "1 (t-1#0, t-1#0)");
    meet("x^2*y-1;y-x", "1 (t-1#0, t-1#0)");
    meet("[x-1]*[x-2]*[x-3];y^3-2", "3 (t-1#0, t^3-2#0) (t-2#0, t^3-2#0) (t-3#0, t^3-2#0)");
    meet("[x-1]*[y-2];[x-3]*[y-4]", "2 (t-1#0, t-4#0) (t-3#0, t-2#0)");
    meet("[x-y]^2;[x+y]^3-8", "1 (t-1#0, t-1#0)");
    meet("y^3-x^2;x", "1 (t#0, t#0)");
    meet("2*x-1;3*y+2", "1 (2*t-1#0, 3*t+2#0)");
    meet("x^3-x;y^3-y", "9 (t+1#0, t+1#0) (t+1#0, t#0) (t+1#0, t-1#0) (t#0, t+1#0) (t#0, t#0) (t#0, t-1#0)"
        + " (t-1#0, t+1#0) (t-1#0, t#0) (t-1#0, t-1#0)");
  }

  private static void many() {
    meet("0;0", "-103");
    meet("0;x", "-103");
    meet("y;0", "-103");
    meet("x;x", "-103");
    meet("x;2*x", "-103");
    meet("x*y;x*[y-1]", "-103");
    meet("[x-y]*x;[x-y]*y", "-103");
    meet("x^2+y^2+1;x*[x^2+y^2+1]", "-103");
    meet("x^2-1;[x+1]*y", "-103");
    meet("y^2-2;2*y^2-4", "-103");
    meet("0*x;x^2+1", "-103");
  }

  private static void noPoints() {
    meet("0;1", "0");
    meet("1;0", "0");
    meet("2;3", "0");
    meet("2;x", "0");
    meet("x;x-1", "0");
    meet("x^2+1;y", "0");
    meet("x^2+y^2-1;x-2", "0");
    meet("x*y-1;x", "0");
    meet("x*y-1;y", "0");
    meet("x+y;x+y-1", "0");
    meet("x^2-2;x^2-3", "0");
  }

  private static void digits() {
    CellDecide cells = new CellDecide();
    CHECK.due("meet", Check.meet(cells, "x^2+y^2-1 ; x-y"), 2);
    CHECK.due("x 0", Check.written(cells, cells.writePoint(0, 0, 3)), "-0.708");
    CHECK.due("y 0", Check.written(cells, cells.writePoint(0, 1, 0)), "-1");
    CHECK.due("x 1", Check.written(cells, cells.writePoint(1, 0, 60)), "0.707106781186547524400844362104849039284835937688474036588339");
    CHECK.due("y 1", Check.written(cells, cells.writePoint(1, 1, 1)), "0.7");
    CHECK.due("degree of x", cells.point(1, 0), 2);
    CHECK.due("place of x", cells.point(1, 1), 1);
    CHECK.due("degree of y", cells.point(0, 2), 2);
    CHECK.due("place of y", cells.point(0, 3), 0);
  }

  private static void refusals() {
    CellDecide cells = new CellDecide();
    CHECK.due("point before meet", cells.point(0, 0), CellDecide.STATE);
    CHECK.due("meet with a fault", Check.meet(cells, "x;"), -1002);
    CHECK.due("point after a fault", cells.point(0, 0), CellDecide.STATE);
    CHECK.due("meet in many", Check.meet(cells, "x;x"), CellDecide.MANY);
    CHECK.due("point after many", cells.point(0, 0), CellDecide.STATE);
    CHECK.due("writePoint after many", cells.writePoint(0, 0, 0), CellDecide.STATE);
    CHECK.due("writePointLeast after many", cells.writePointLeast(0, 0), CellDecide.STATE);
    CHECK.due("meet in none", Check.meet(cells, "x;x-1"), 0);
    CHECK.due("point of none", cells.point(0, 0), CellDecide.OUTSIDE);
    CHECK.due("writePoint of none", cells.writePoint(0, 0, 0), CellDecide.OUTSIDE);
    CHECK.due("writePointLeast of none", cells.writePointLeast(0, 0), CellDecide.OUTSIDE);
    CHECK.due("meet", Check.meet(cells, "x;y-1"), 1);
    int[][] outside = {{-1, 0}, {1, 0}, {0, -1}, {0, 4}, {Integer.MAX_VALUE, 3}, {Integer.MIN_VALUE, 3}, {0, Integer.MAX_VALUE}};
    for (int[] o : outside) CHECK.due("point " + o[0] + ", " + o[1], cells.point(o[0], o[1]), CellDecide.OUTSIDE);
    int[][] wrong = {{-1, 0, 0}, {1, 0, 0}, {0, -1, 0}, {0, 2, 0}, {0, 0, -1}, {0, 0, 61}, {Integer.MAX_VALUE, 0, 0}};
    for (int[] o : wrong) {
      CHECK.due("writePoint " + o[0] + ", " + o[1] + ", " + o[2], cells.writePoint(o[0], o[1], o[2]), CellDecide.OUTSIDE);
    }
    CHECK.due("writePointLeast of axis 2", cells.writePointLeast(0, 2), CellDecide.OUTSIDE);
    CHECK.due("writePointLeast of axis -1", cells.writePointLeast(0, -1), CellDecide.OUTSIDE);
    CHECK.due("writePointLeast of point 1", cells.writePointLeast(1, 0), CellDecide.OUTSIDE);
    CHECK.due("nothing was written", cells.at(0), CellDecide.NONE);
  }

  private static void whatStays() {
    CellDecide cells = new CellDecide();
    Check.meet(cells, "x^2-2;y");
    CHECK.due("meet in many", Check.meet(cells, "x;x"), CellDecide.MANY);
    CHECK.due("the points stay", cells.point(1, 1), 1);
    CHECK.due("meet with a fault", Check.meet(cells, "x;y;"), -1003);
    CHECK.due("the points stay", Check.written(cells, cells.writePoint(1, 0, 2)), "1.41");
    CHECK.due("read", Check.read(cells, "x<1"), 1);
    CHECK.due("solve", cells.solve(), 1);
    CHECK.due("the points stay", Check.written(cells, cells.writePointLeast(0, 0)), "t^2-2");
    CHECK.due("meet in none", Check.meet(cells, "x;1"), 0);
    CHECK.due("the points are gone", cells.point(0, 0), CellDecide.OUTSIDE);
    CHECK.due("the set stays", cells.interval(0, 1), 1);
    CHECK.due("what was written stays", cells.at(0), 't');
  }
}
