import java.nio.charset.StandardCharsets;

/** What the tests share: texts for the tape, what was written, and the count of answers that are not as due. */
final class Check {
  private int asked;
  private int wrong;
  private String sentence = "";

  /** Names the part of the document and the sentence in it (a [..] stands for words left out) that the answers from here on are of. */
  void of(String part, String words) {
    of(part, words, "");
  }

  void of(String part, String words, String remark) {
    sentence = part + ", \"" + words + "\"" + (remark.isEmpty() ? "" : ", " + remark) + ": ";
  }

  void due(String call, long got, long want) {
    due(call, Long.toString(got), Long.toString(want));
  }

  void due(String call, String got, String want) {
    asked++;
    if (got.equals(want)) return;
    wrong++;
    System.out.println(sentence + call + " answered " + got + ", due is " + want);
  }

  /** Ends the test. */
  void finish() {
    System.out.println(wrong == 0 ? asked + " answers are as due" : wrong + " of " + asked + " answers are not as due");
    if (wrong != 0) System.exit(1);
  }

  /** Makes a text the whole tape. */
  static void tape(CellDecide cells, String text) {
    byte[] bytes = text.getBytes(StandardCharsets.ISO_8859_1);
    cells.end(0);
    for (int i = 0; i < bytes.length; i += 20) {
      cells.feed(four(bytes, i), four(bytes, i + 4), four(bytes, i + 8), four(bytes, i + 12), four(bytes, i + 16));
    }
    cells.end(bytes.length);
  }

  private static int four(byte[] bytes, int from) {
    int result = 0;
    for (int i = from; i < from + 4; i++) result = result << 8 | (i < bytes.length ? bytes[i] & 255 : 0);
    return result;
  }

  static int read(CellDecide cells, String text) {
    tape(cells, text);
    return cells.read();
  }

  static int meet(CellDecide cells, String text) {
    tape(cells, text);
    return cells.meet();
  }

  /** How many bytes the tape has after twenty more; NONE, if feed refuses them. */
  static int feed(CellDecide cells) {
    try {
      return cells.feed(0x20202020, 0x20202020, 0x20202020, 0x20202020, 0x20202020);
    } catch (IllegalStateException e) {
      return CellDecide.NONE;
    }
  }

  /** Whether end(n) cuts the tape (1) or refuses it (0). */
  static int end(CellDecide cells, int n) {
    try {
      cells.end(n);
      return 1;
    } catch (IllegalArgumentException e) {
      return 0;
    }
  }

  /** The text that was written, if a call answered how long it is; else the refusal. */
  static String written(CellDecide cells, int answer) {
    if (answer < 0) return Integer.toString(answer);
    StringBuilder text = new StringBuilder();
    for (int i = 0; i < answer; i++) text.append((char) cells.at(i));
    if (cells.at(answer) != CellDecide.NONE) text.append(" and more");
    return text.toString();
  }

  /** The set as text: ( [ ) ] for ends, least polynomial and place of each (of one number alone twice), then how many members. */
  static String set(CellDecide cells, String text) {
    read(cells, text);
    int count = cells.solve();
    StringBuilder told = new StringBuilder();
    for (int i = 0; i < count; i++) {
      told.append(i == 0 ? "" : " ");
      told.append(cells.interval(i, 0) == 2 ? '[' : '(').append(end(cells, i, 0)).append(", ").append(end(cells, i, 1));
      told.append(cells.interval(i, 1) == 2 ? ']' : ')');
    }
    return told.append(count < 0 ? Integer.toString(count) : "").append(" : ").append(cells.members()).toString();
  }

  private static String end(CellDecide cells, int i, int end) {
    if (cells.interval(i, end) == 0) {
      boolean none = cells.interval(i, 2 + 2 * end) == CellDecide.NONE && cells.interval(i, 3 + 2 * end) == CellDecide.NONE;
      return none && cells.write(i, end, 0) == CellDecide.OUTSIDE && cells.writeLeast(i, end) == CellDecide.OUTSIDE ? "all" : "wrong";
    }
    return written(cells, cells.writeLeast(i, end)) + "#" + cells.interval(i, 3 + 2 * end);
  }

  /** The points as text: how many, then least polynomial and place of x and y of each. */
  static String points(CellDecide cells, String text) {
    int count = meet(cells, text);
    StringBuilder told = new StringBuilder();
    told.append(count);
    for (int i = 0; i < count; i++) {
      for (int axis = 0; axis < 2; axis++) {
        told.append(axis == 0 ? " (" : ", ").append(written(cells, cells.writePointLeast(i, axis)));
        told.append('#').append(cells.point(i, 2 * axis + 1));
      }
      told.append(')');
    }
    return told.toString();
  }

  /** All that is told of a statement, in one line. */
  static String toldOfStatement(String text) {
    CellDecide cells = new CellDecide();
    StringBuilder told = new StringBuilder();
    told.append("read=").append(read(cells, text)).append(" fault=").append(cells.fault());
    told.append(" decide=").append(cells.decide());
    int intervals = cells.solve();
    told.append(" solve=").append(intervals).append(" members=").append(cells.members());
    for (int i = 0; i < intervals; i++) {
      told.append(" {");
      for (int what = 0; what < 6; what++) told.append(cells.interval(i, what)).append(',');
      for (int end = 0; end < 2; end++) {
        told.append(end == 0 ? "" : "|").append(written(cells, cells.write(i, end, 30)));
        told.append('|').append(written(cells, cells.writeLeast(i, end)));
      }
      told.append('}');
    }
    int[][] places = {{0, 1, 0, 1}, {1, 2, -3, 4}, {-5, 3, 7, 1}, {1, 1, 1, 1}, {-1, 1, 2, 1}, {1000000, 1, -1000000, 1},
        {7, 1000, 999, 1000}, {2, 1, 2, 1}, {-1, 1, -1, 1}};
    told.append(" holds=");
    for (int[] p : places) told.append(cells.holds(p[0], p[1], p[2], p[3])).append(',');
    return told.toString();
  }

  /** All that is told of two curves, in one line. */
  static String toldOfCurves(String text) {
    CellDecide cells = new CellDecide();
    int points = meet(cells, text);
    StringBuilder told = new StringBuilder();
    told.append("meet=").append(points).append(" fault=").append(cells.fault());
    for (int i = 0; i < points; i++) {
      told.append(" {");
      for (int what = 0; what < 4; what++) told.append(cells.point(i, what)).append(',');
      for (int axis = 0; axis < 2; axis++) {
        told.append(axis == 0 ? "" : "|").append(written(cells, cells.writePoint(i, axis, 30)));
        told.append('|').append(written(cells, cells.writePointLeast(i, axis)));
      }
      told.append('}');
    }
    return told.toString();
  }
}
