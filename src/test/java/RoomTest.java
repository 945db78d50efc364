import com.sun.management.ThreadMXBean;
import java.lang.management.ManagementFactory;

/** What a run makes stays small, however dear its calls are, and calls in any order throw only what is said. */
public final class RoomTest {
  private static final int CALLS = 512;
  private static final Check CHECK = new Check();
  private static final ThreadMXBean THREADS = (ThreadMXBean) ManagementFactory.getThreadMXBean();

  public static void main(String[] args) {
    room();
    roomIsUsedAgain();
    anyOrder();
    CHECK.finish();
  }

  private static final String[] DEAR = {
    "some y. 878*y^3-374*x^3+219*x*y-327<=0 or 510*y^3-453*x^3+891*x^2-299!=0 and 222*y^3-952*x^3+280*x^2*y-335<0"
        + " and 867*y^3-383*x^3+190*x*y-365>=0",
    "some y. x^3+5*x^2*y-7*x*y^2+3*y^3+11*x*y-13*y+2=0 and 2*x^3-5*x^2*y+9*x*y^2-4*y^3+x^2-6*y+8=0",
    "all x. some y. y^3-3*x*y+x^3=1 or x^2+y^2<1"};
  private static final String CURVES = "x^3+5*x^2*y-7*x*y^2+3*y^3+11*x*y-13*y+2;2*x^3-5*x^2*y+9*x*y^2-4*y^3+x^2-6*y+8";

  private static long made() {
    return THREADS.getThreadAllocatedBytes(Thread.currentThread().getId());
  }

  private static void askAll(CellDecide cells) {
    cells.decide();
    if (cells.solve() > 0) {
      cells.write(0, 1, 60);
      cells.writeLeast(0, 1);
    }
  }

  /** One object, dear statements in turn: all of it within a third of 7.3 million elements of four bytes. */
  private static void room() {
    long before = made();
    CellDecide cells = new CellDecide();
    for (int call = 0; call < CALLS; call += 12) {
      cells.feed(0, 0, 0, 0, 0);
      Check.read(cells, DEAR[call / 12 % DEAR.length]);
      askAll(cells);
    }
    long bytes = made() - before;
    CHECK.due("bytes that a run makes: " + bytes, bytes < 4 * 7300000L / 3 ? 1 : 0, 1);
  }

  /** What was once asked needs no more room when it is asked again. */
  private static void roomIsUsedAgain() {
    CellDecide cells = new CellDecide();
    long bytes = 0;
    for (int round = 0; round < 10; round++) {
      for (String text : DEAR) {
        Check.read(cells, text);
        long before = made();
        askAll(cells);
        if (round > 0) bytes += made() - before;
      }
      Check.tape(cells, CURVES);
      long before = made();
      if (cells.meet() > 0) cells.writePoint(0, 1, 60);
      if (round > 0) bytes += made() - before;
    }
    // a row that grows once is longer than this
    CHECK.due("bytes that later rounds make: " + bytes, bytes < 5000 ? 1 : 0, 1);
  }

  private static void anyOrder() {
    String[] texts = {"x^2=2", "some y. x*y=1", "x;y", "x^2+y^2-1;x-y", "true", "some x. x<", "x<y", "x;x", "", "all x. all y. x=y"};
    int[] numbers = {0, 1, 2, 3, 5, 6, -1, 9, 60, 61, 600, 1000, 1001, 1000000, 1000001, Integer.MAX_VALUE, Integer.MIN_VALUE};
    long seed = 12345;
    for (int run = 0; run < 300; run++) {
      CellDecide cells = new CellDecide();
      for (int call = 0; call < 100; call++) {
        seed = seed * 6364136223846793005L + 1442695040888963407L;
        int a = numbers[(int) (seed >>> 33) % numbers.length], b = numbers[(int) (seed >>> 40) % numbers.length];
        int c = numbers[(int) (seed >>> 45) % numbers.length];
        CHECK.due("a call", one(cells, (int) (seed >>> 50) % 19, a, b, c, texts[(int) (seed >>> 36) % texts.length]), 0);
      }
    }
  }

  /** 0, if the call threw nothing but what the document says. */
  private static int one(CellDecide cells, int which, int a, int b, int c, String text) {
    try {
      switch (which) {
        case 0: cells.end(a); return 0;
        case 1: cells.feed(a, b, c, a, b); return 0;
        case 2: return cells.read() > -2000 ? 0 : 1;
        case 3: return cells.fault() <= 6 ? 0 : 1;
        case 4: cells.decide(); return 0;
        case 5: cells.holds(a, b, c, a); return 0;
        case 6: cells.solve(); return 0;
        case 7: cells.interval(a, b); return 0;
        case 8: cells.members(); return 0;
        case 9: cells.meet(); return 0;
        case 10: cells.point(a, b); return 0;
        case 11: cells.write(a, b, c); return 0;
        case 12: cells.writeLeast(a, b); return 0;
        case 13: cells.writePoint(a, b, c); return 0;
        case 14: cells.writePointLeast(a, b); return 0;
        case 15: cells.at(a); return 0;
        default: Check.tape(cells, text); return 0;
      }
    } catch (IllegalArgumentException e) {
      return which == 0 ? 0 : 1;
    } catch (IllegalStateException e) {
      return which == 1 ? 0 : 1;
    }
  }
}
