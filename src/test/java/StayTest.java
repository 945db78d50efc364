import java.io.IOException;
import java.nio.charset.StandardCharsets;
import java.nio.file.Files;
import java.nio.file.Path;
import java.util.ArrayList;
import java.util.List;

/**
 * One object for many texts answers as a new one for each text: nothing of a statement, a set or points is left in the next,
 * and what was told stays beside what is read later.
 */
public final class StayTest {
  private static final Check CHECK = new Check();
  private static final List<String> STATEMENTS = new ArrayList<>();
  private static final List<String> CURVES = new ArrayList<>();
  private static long seed = 2024;

  public static void main(String[] args) throws IOException {
    List<String> lines = Files.readAllLines(Path.of("src/test/data/told.txt"), StandardCharsets.ISO_8859_1);
    for (int i = 0; i + 1 < lines.size(); i += 2) {
      String text = lines.get(i).substring(2).replace("\\n", "\n");
      (lines.get(i).charAt(0) == 'S' ? STATEMENTS : CURVES).add(text);
    }
    for (int run = 0; run < 40; run++) oneRun();
    CHECK.finish();
  }

  private static int pick(int below) {
    seed = seed * 6364136223846793005L + 1442695040888963407L;
    return (int) ((seed >>> 33) % below);
  }

  private static void oneRun() {
    CellDecide cells = new CellDecide(), statement = new CellDecide(), set = new CellDecide(), points = new CellDecide();
    CellDecide writer = new CellDecide();
    for (int call = 0; call < 100; call++) {
      int i = pick(4) - 1, j = pick(7) - 1, digits = pick(62);
      int asked = pick(10);
      if (asked == 0) {
        String text = STATEMENTS.get(pick(STATEMENTS.size()));
        statement = new CellDecide();
        CHECK.due("read of " + text, Check.read(cells, text), Check.read(statement, text));
        CHECK.due("fault of " + text, cells.fault(), statement.fault());
      } else if (asked == 1) {
        int answer = cells.solve();
        CHECK.due("solve", answer, statement.solve());
        if (answer >= 0) set = statement;
      } else if (asked == 2) {
        String text = CURVES.get(pick(CURVES.size()));
        CellDecide other = new CellDecide();
        int answer = Check.meet(cells, text);
        CHECK.due("meet of " + text, answer, Check.meet(other, text));
        CHECK.due("fault of " + text, cells.fault(), other.fault());
        if (answer >= 0) points = other;
      } else if (asked == 3) {
        CHECK.due("decide", cells.decide(), statement.decide());
        CHECK.due("holds", cells.holds(i * 7, j + 1, digits, i + 2), statement.holds(i * 7, j + 1, digits, i + 2));
      } else if (asked < 7) {
        writer = askSet(cells, set, writer, i, j, digits);
      } else {
        writer = askPoints(cells, points, writer, i, j, digits);
      }
      CHECK.due("at", cells.at(i), writer.at(i));
    }
  }

  private static CellDecide askSet(CellDecide cells, CellDecide set, CellDecide writer, int i, int j, int digits) {
    CHECK.due("members", cells.members(), set.members());
    CHECK.due("interval", cells.interval(i, j), set.interval(i, j));
    int least = cells.writeLeast(i, j);
    CHECK.due("writeLeast", Check.written(cells, least), Check.written(set, set.writeLeast(i, j)));
    int length = cells.write(i, j, digits);
    CHECK.due("write", Check.written(cells, length), Check.written(set, set.write(i, j, digits)));
    return least >= 0 || length >= 0 ? set : writer;
  }

  private static CellDecide askPoints(CellDecide cells, CellDecide points, CellDecide writer, int i, int j, int digits) {
    CHECK.due("point", cells.point(i, j), points.point(i, j));
    int least = cells.writePointLeast(i, j);
    CHECK.due("writePointLeast", Check.written(cells, least), Check.written(points, points.writePointLeast(i, j)));
    int length = cells.writePoint(i, j, digits);
    CHECK.due("writePoint", Check.written(cells, length), Check.written(points, points.writePoint(i, j, digits)));
    return least >= 0 || length >= 0 ? points : writer;
  }
}
