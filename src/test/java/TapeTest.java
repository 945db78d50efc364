/** Promises 1 to 3: a new object, feed, end. */
public final class TapeTest {
  private static final Check CHECK = new Check();

  public static void main(String[] args) {
    newObject();
    feeding();
    cutting();
    bytesInOrder();
    usedUp();
    CHECK.finish();
  }

  private static void newObject() {
    CellDecide cells = new CellDecide();
    CHECK.due("new: fault", cells.fault(), 0);
    CHECK.due("new: decide", cells.decide(), CellDecide.STATE);
    CHECK.due("new: holds", cells.holds(0, 0, 0, 0), CellDecide.STATE);
    CHECK.due("new: solve", cells.solve(), CellDecide.STATE);
    CHECK.due("new: interval", cells.interval(-1, 9), CellDecide.STATE);
    CHECK.due("new: members", cells.members(), CellDecide.STATE);
    CHECK.due("new: point", cells.point(-1, 9), CellDecide.STATE);
    CHECK.due("new: write", cells.write(-1, 9, 99), CellDecide.STATE);
    CHECK.due("new: writeLeast", cells.writeLeast(-1, 9), CellDecide.STATE);
    CHECK.due("new: writePoint", cells.writePoint(-1, 9, 99), CellDecide.STATE);
    CHECK.due("new: writePointLeast", cells.writePointLeast(-1, 9), CellDecide.STATE);
    CHECK.due("new: at", cells.at(0), CellDecide.NONE);
    CHECK.due("new: end(0)", cut(cells, 0), 0);
    CHECK.due("new: end(1)", cut(cells, 1), 1);
    CHECK.due("new: read", cells.read(), -1000);
    CHECK.due("new: fault of read", cells.fault(), 2);
    CHECK.due("new: meet", new CellDecide().meet(), -1000);
  }

  private static void feeding() {
    CellDecide cells = new CellDecide();
    for (int n = 20; n <= 600; n += 20) CHECK.due("feed", feed(cells), n);
    CHECK.due("feed over 600", feed(cells), -7);
    CHECK.due("feed over 600 leaves the tape", cut(cells, 600), 0);
    CHECK.due("end(581)", cut(cells, 581), 0);
    CHECK.due("feed of 581", feed(cells), -7);
    CHECK.due("end(580)", cut(cells, 580), 0);
    CHECK.due("feed of 580", feed(cells), 600);
  }

  private static void cutting() {
    CellDecide cells = new CellDecide();
    feed(cells);
    CHECK.due("end(-1)", cut(cells, -1), 1);
    CHECK.due("end(21)", cut(cells, 21), 1);
    CHECK.due("end(lowest)", cut(cells, Integer.MIN_VALUE), 1);
    CHECK.due("end(highest)", cut(cells, Integer.MAX_VALUE), 1);
    CHECK.due("end(20)", cut(cells, 20), 0);
    CHECK.due("end(7)", cut(cells, 7), 0);
    CHECK.due("end(8)", cut(cells, 8), 1);
    CHECK.due("feed behind 7", feed(cells), 27);
  }

  private static void bytesInOrder() {
    CellDecide cells = new CellDecide();
    // "not " "x = " "1 or" " y <" " 2  "
    CHECK.due("feed", cells.feed(0x6e6f7420, 0x78203d20, 0x31206f72, 0x2079203c, 0x20322020), 20);
    CHECK.due("read", cells.read(), 3);
    CHECK.due("holds(1, 2)", cells.holds(1, 1, 2, 1), 0);
    CHECK.due("holds(1, 1)", cells.holds(1, 1, 1, 1), 1);
    // a byte above 127 is no token
    cells.feed(0x74727565, 0x20ff2020, 0x20202020, 0x20202020, 0x20202020);
    CHECK.due("read", cells.read(), -1005);
    CHECK.due("fault", cells.fault(), 1);
  }

  private static void usedUp() {
    CellDecide cells = new CellDecide();
    CHECK.due("read", Check.read(cells, "true"), 0);
    CHECK.due("after read: end(1)", cut(cells, 1), 1);
    CHECK.due("after read: feed", feed(cells), 20);
    CHECK.due("read a fault", cells.read(), -1000);
    CHECK.due("after a fault: end(1)", cut(cells, 1), 1);
    CHECK.due("meet", Check.meet(cells, "x;y"), 1);
    CHECK.due("after meet: end(1)", cut(cells, 1), 1);
    CHECK.due("meet a fault", Check.meet(cells, "x;"), -1002);
    CHECK.due("after a fault of meet: end(1)", cut(cells, 1), 1);
  }

  private static int feed(CellDecide cells) {
    try {
      return cells.feed(0, 0, 0, 0, 0);
    } catch (IllegalStateException e) {
      return -7;
    }
  }

  private static int cut(CellDecide cells, int n) {
    try {
      cells.end(n);
      return 0;
    } catch (IllegalArgumentException e) {
      return 1;
    }
  }
}
