import java.util.ArrayList;
import java.util.Arrays;

/** Statements about real numbers x and y, decided exactly; what each call promises stands in DOC.md. */
public final class CellDecide {
  public static final int NONE = -1;
  public static final int STATE = -101, OUTSIDE = -102, MANY = -103;

  private static final int TAPE = 600;
  private static final int MOST_DIGITS = 60;
  private static final int LOWEST_FAULT = -1000;
  /** The outermost part of a statement, which no 'some' and no 'all' holds. */
  private static final int OUTERMOST = -1;
  /** Far above what any loop needs whose end is sure for another reason. */
  private static final int ENDLESS = 1000000;

  private final byte[] tape = new byte[TAPE];
  private int tapeLength;
  private int fault;
  private final Statement statement = new Statement();
  private final Reader reader = new Reader(tape, statement);
  private final Polys polys = new Polys(new Numbers(3000));
  private final Splitter splitter = new Splitter(polys);
  private final Curves curves = new Curves(polys);
  private final Spot spot = new Spot(polys);
  private final Line line = new Line(curves, spot, statement);
  private final Roots breaks = new Roots(polys, splitter);
  private final Roots heights = new Roots(polys, splitter);
  private final Roots ends = new Roots(polys, splitter);
  private final Roots places = new Roots(polys, splitter);
  /** Four numbers for each interval: kind and root of the lower end, kind and root of the upper one. */
  private int[] rows = new int[32];
  private int intervals = NONE;
  private int points = NONE;
  private final StringBuilder text = new StringBuilder();

  public CellDecide() {
  }

  public int feed(int a, int b, int c, int d, int e) throws IllegalStateException {
    if (tapeLength + 20 > TAPE) throw new IllegalStateException("the tape is full");
    putBytes(a);
    putBytes(b);
    putBytes(c);
    putBytes(d);
    putBytes(e);
    return tapeLength;
  }

  private void putBytes(int four) {
    for (int shift = 24; shift >= 0 && tapeLength < TAPE; shift -= 8) {
      tape[tapeLength] = (byte) (four >> shift);
      tapeLength++;
    }
  }

  public void end(int n) throws IllegalArgumentException {
    if (n < 0 || n > tapeLength) throw new IllegalArgumentException("no such place on the tape");
    tapeLength = n;
  }

  public int read() {
    reader.takeStatement(tapeLength);
    tapeLength = 0;
    fault = reader.kind;
    return fault == 0 ? statement.free : LOWEST_FAULT - reader.faultPlace;
  }

  public int fault() {
    return fault;
  }

  public int decide() {
    if (!statement.there || statement.free != 0) return STATE;
    for (int q = 0; q < statement.quantifiers && statement.answer == NONE; q++) {
      if (statement.parent[q] == OUTERMOST) {
        prepare(q, statement.variable[q]);
        statement.value[q] = truthOfQuantifier(q);
      }
    }
    return statement.closedAnswer();
  }

  public int holds(int xUp, int xLow, int yUp, int yLow) {
    if (!statement.there) return STATE;
    boolean x = (statement.free & 1) != 0, y = (statement.free & 2) != 0;
    if (x && !isFraction(xUp, xLow) || y && !isFraction(yUp, yLow)) return OUTSIDE;
    if (x || y) return truthAt(x ? xUp : yUp, x ? xLow : yLow, yUp, yLow) ? 1 : 0;
    // the same loop as in decide(): one call more would go too deep
    for (int q = 0; q < statement.quantifiers && statement.answer == NONE; q++) {
      if (statement.parent[q] == OUTERMOST) {
        prepare(q, statement.variable[q]);
        statement.value[q] = truthOfQuantifier(q);
      }
    }
    return statement.closedAnswer();
  }

  private static boolean isFraction(int up, int low) {
    return low >= 1 && low <= 1000 && up >= -1000000 && up <= 1000000;
  }

  /** The truth where the first free variable is up / low and, if both are free, y is yUp / yLow. */
  private boolean truthAt(int up, int low, int yUp, int yLow) {
    Numbers n = polys.numbers;
    n.clear();
    curves.take(statement.poly, statement.comparisons, statement.free == 2 ? 1 : 0);
    spot.standOnFraction(n.small(up), n.small(low));
    if (statement.free != 3) return line.truth(OUTERMOST);
    int above = n.small(yUp), below = n.small(yLow);
    for (int i = 0; i < statement.comparisons; i++) {
      statement.sign[i] = spot.signOf(curves.taylor(i, curves.degree[i], 0, above, below));
    }
    return statement.truth(OUTERMOST);
  }

  public int solve() {
    if (!statement.there || statement.free != 1 && statement.free != 2) return STATE;
    prepare(OUTERMOST, statement.free - 1);
    ends.clear();
    intervals = 0;
    int start = NONE;
    int cells = 2 * breaks.count + 1;
    for (int cell = 0; cell < cells; cell++) {
      int mark = polys.numbers.top;
      spot.standOnCell(breaks, cell);
      boolean holds = line.truth(OUTERMOST);
      polys.numbers.top = mark;
      if (holds && start == NONE) start = cell;
      if (!holds && start != NONE) {
        addInterval(start, cell - 1);
        start = NONE;
      }
    }
    if (start != NONE) addInterval(start, cells - 1);
    return intervals;
  }

  /** Of cells an odd one is a root alone, an even one is what lies between two roots, below or above all. */
  private void addInterval(int first, int last) {
    if (4 * intervals + 4 > rows.length) rows = Arrays.copyOf(rows, 2 * rows.length + 4);
    boolean noLower = first == 0, noUpper = last == 2 * breaks.count;
    int row = 4 * intervals;
    rows[row] = noLower ? 0 : first % 2 == 0 ? 1 : 2;
    rows[row + 1] = noLower ? NONE : ends.takeRoot(breaks, (first - 1) / 2);
    rows[row + 2] = noUpper ? 0 : last % 2 == 0 ? 1 : 2;
    boolean alone = first == last && first % 2 == 1;
    rows[row + 3] = noUpper ? NONE : alone ? rows[row + 1] : ends.takeRoot(breaks, last / 2);
    intervals++;
  }

  public int interval(int i, int what) {
    if (intervals == NONE) return STATE;
    if (i < 0 || i >= intervals || what < 0 || what > 5) return OUTSIDE;
    if (what < 2) return rows[4 * i + 2 * what];
    Root root = ends.get(rows[4 * i + (what < 4 ? 1 : 3)]);
    if (root == null) return NONE;
    return what % 2 == 0 ? root.degree : root.place;
  }

  public int members() {
    if (intervals == NONE) return STATE;
    for (int i = 0; i < intervals; i++) {
      if (rows[4 * i + 1] == NONE || rows[4 * i + 1] != rows[4 * i + 3]) return MANY;
    }
    return intervals;
  }

  public int meet() {
    reader.takeCurves(tapeLength);
    tapeLength = 0;
    fault = reader.kind;
    if (fault != 0) return LOWEST_FAULT - reader.faultPlace;
    int first = Reader.degree(reader.curve[0]), second = Reader.degree(reader.curve[1]);
    if (first == 0 || second == 0) return tellNoPoints();
    if (first < 0 || second < 0) return MANY;
    polys.numbers.clear();
    if (!crossings(heights, 1) || !crossings(breaks, 0)) return MANY;
    places.clear();
    points = 0;
    for (int i = 0; i < breaks.count; i++) {
      int mark = polys.numbers.top;
      spot.standOnCell(breaks, 2 * i + 1);
      line.clear();
      line.load(0);
      line.load(1);
      line.separate();
      line.arrange();
      for (int g = 0; g < line.roots; g++) {
        if (line.startsGroup(g) && line.allVanish(g)) tellPoint(i, g);
      }
      polys.numbers.top = mark;
    }
    return points;
  }

  private int tellNoPoints() {
    places.clear();
    points = 0;
    return 0;
  }

  /** Collects in a list where on this axis the two curves may meet; false, if they have a part in common. */
  private boolean crossings(Roots list, int axis) {
    list.clear();
    curves.take(reader.curve, 2, axis);
    int first = curves.degree[0], second = curves.degree[1];
    if (first == 0 && second == 0) return true;
    int result;
    if (first == 0 || second == 0) {
      result = curves.coefficient(first == 0 ? 0 : 1, 0);
    } else {
      curves.bezout(0, first, 1, second);
      result = curves.minor(Math.max(first, second), 0);
    }
    if (polys.degree(result) < 0) return false;
    list.add(result);
    list.sort();
    return true;
  }

  private void tellPoint(int i, int g) {
    int j = NONE;
    for (int round = 0; round < ENDLESS && j == NONE; round++) {
      j = heights.onlyOneAt(line.root(g));
      if (j == NONE) line.step(line.order[g]);
    }
    if (j == NONE) return;
    places.takeRoot(breaks, i);
    places.takeRoot(heights, j);
    points++;
  }

  public int point(int i, int what) {
    if (points == NONE) return STATE;
    if (i < 0 || i >= points || what < 0 || what > 3) return OUTSIDE;
    Root root = places.get(2 * i + what / 2);
    if (root == null) return OUTSIDE;
    return what % 2 == 0 ? root.degree : root.place;
  }

  public int write(int i, int end, int digits) {
    if (intervals == NONE) return STATE;
    Root root = endOf(i, end);
    if (root == null || digits < 0 || digits > MOST_DIGITS) return OUTSIDE;
    return digitsOf(ends, root, digits);
  }

  public int writeLeast(int i, int end) {
    if (intervals == NONE) return STATE;
    Root root = endOf(i, end);
    return root == null ? OUTSIDE : leastOf(ends, root);
  }

  public int writePoint(int i, int axis, int digits) {
    if (points == NONE) return STATE;
    Root root = axisOf(i, axis);
    if (root == null || digits < 0 || digits > MOST_DIGITS) return OUTSIDE;
    return digitsOf(places, root, digits);
  }

  public int writePointLeast(int i, int axis) {
    if (points == NONE) return STATE;
    Root root = axisOf(i, axis);
    return root == null ? OUTSIDE : leastOf(places, root);
  }

  public int at(int i) {
    return i >= 0 && i < text.length() ? text.charAt(i) : NONE;
  }

  private Root endOf(int i, int end) {
    if (i < 0 || i >= intervals || end < 0 || end > 1) return null;
    return ends.get(rows[4 * i + 2 * end + 1]);
  }

  private Root axisOf(int i, int axis) {
    if (i < 0 || i >= points || axis < 0 || axis > 1) return null;
    return places.get(2 * i + axis);
  }

  private int digitsOf(Roots list, Root root, int digits) {
    polys.numbers.clear();
    text.setLength(0);
    polys.numbers.spellFixed(list.scaledDown(root, digits), digits, text);
    return text.length();
  }

  private int leastOf(Roots list, Root root) {
    polys.numbers.clear();
    text.setLength(0);
    polys.spell(polys.copy(list.shelf, root.poly), text);
    return text.length();
  }

  /** Finds all numbers on an axis where the truth of a part of the statement can change. */
  private void prepare(int owner, int axis) {
    polys.numbers.clear();
    curves.take(statement.poly, statement.comparisons, axis);
    breaks.clear();
    for (int i = 0; i < statement.comparisons; i++) {
      if (statement.holder[i] == owner) breaks.add(curves.coefficient(i, 0));
    }
    for (int q = 0; q < statement.quantifiers; q++) {
      if (statement.parent[q] == owner) project(q);
    }
    breaks.sort();
  }

  /** Where the curves inside a 'some' or 'all' turn, cross, or run off to infinity. */
  private void project(int q) {
    for (int i = 0; i < statement.comparisons; i++) {
      if (statement.holder[i] != q || curves.degree[i] < 0) continue;
      breaks.add(curves.coefficient(i, curves.degree[i]));
      breaks.add(curves.turns(i));
      for (int j = 0; j < i; j++) {
        if (statement.holder[j] == q && curves.degree[i] > 0 && curves.degree[j] > 0) breaks.add(curves.crossing(j, i));
      }
    }
  }

  /** The truth of a 'some' or 'all' outside all others; its numbers have been prepared. */
  private boolean truthOfQuantifier(int q) {
    boolean some = statement.some[q];
    int cells = 2 * breaks.count + 1;
    for (int cell = 0; cell < cells; cell++) {
      int mark = polys.numbers.top;
      spot.standOnCell(breaks, cell);
      boolean holds = line.truth(q);
      polys.numbers.top = mark;
      if (holds == some) return some;
    }
    return !some;
  }

  /** A statement that was read: its comparisons, its 'some' and 'all', and its code, each sign behind what it joins. */
  private static final class Statement {
    static final int TRUE = 0, FALSE = 1, COMPARE = 2, NOT = 3, AND = 4, OR = 5, IMPLIES = 6, SAME = 7, OPEN = 8, CLOSE = 9;
    static final int COMPARISONS = 5;
    private static final int CODE = 256, QUANTIFIERS = 64;

    boolean there;
    int free;
    /** Whether it is so, once that has been found; else NONE. */
    int answer = NONE;
    int length;
    final int[] code = new int[CODE];
    private final boolean[] stack = new boolean[CODE];
    int comparisons;
    final int[][] poly = new int[COMPARISONS][Reader.TERMS];
    /** Which signs the relation allows: 1 below 0, 2 zero, 4 above 0. */
    final int[] relation = new int[COMPARISONS];
    /** The innermost 'some' or 'all' round a comparison, or OUTERMOST. */
    final int[] holder = new int[COMPARISONS];
    final int[] sign = new int[COMPARISONS];
    int quantifiers;
    final boolean[] some = new boolean[QUANTIFIERS];
    final int[] variable = new int[QUANTIFIERS];
    final int[] variablePlace = new int[QUANTIFIERS];
    final int[] parent = new int[QUANTIFIERS];
    final int[] from = new int[QUANTIFIERS];
    final int[] till = new int[QUANTIFIERS];
    final boolean[] value = new boolean[QUANTIFIERS];

    void clear() {
      there = false;
      free = 0;
      answer = NONE;
      length = 0;
      comparisons = 0;
      quantifiers = 0;
    }

    void emit(int op, int argument) {
      if (length >= CODE) return;
      code[length] = op | argument << 4;
      length++;
    }

    /** Opens a 'some' or 'all' inside the parent; NONE, if there is no room. */
    int open(boolean isSome, int v, int place, int inside) {
      if (quantifiers >= QUANTIFIERS) return NONE;
      int q = quantifiers++;
      some[q] = isSome;
      variable[q] = v;
      variablePlace[q] = place;
      parent[q] = inside;
      emit(OPEN, q);
      from[q] = length;
      return q;
    }

    void close(int q) {
      if (q < 0 || q >= quantifiers) return;
      till[q] = length;
      emit(CLOSE, q);
    }

    /** Whether a statement without free variables is so, when the values of its outer 'some' and 'all' are known. */
    int closedAnswer() {
      if (answer != NONE) return answer;
      for (int i = 0; i < comparisons; i++) {
        if (holder[i] == OUTERMOST) sign[i] = Integer.signum(poly[i][0]);
      }
      answer = truth(OUTERMOST) ? 1 : 0;
      return answer;
    }

    /** The truth of a part, when the signs of its comparisons and the values of the parts inside it are known. */
    boolean truth(int owner) {
      int n = 0;
      int start = owner < 0 || owner >= quantifiers ? 0 : from[owner];
      int stop = owner < 0 || owner >= quantifiers ? length : till[owner];
      for (int i = start; i < stop && i < CODE; i++) {
        int op = code[i] & 15, argument = code[i] >> 4;
        if (op == OPEN && argument < QUANTIFIERS) {
          stack[n++] = value[argument];
          i = Math.max(i, till[argument]);
        } else if (op == COMPARE && argument < COMPARISONS) {
          stack[n++] = (relation[argument] >> sign[argument] + 1 & 1) != 0;
        } else if (op == TRUE || op == FALSE) {
          stack[n++] = op == TRUE;
        } else if (op == NOT && n >= 1) {
          stack[n - 1] = !stack[n - 1];
        } else if (n >= 2) {
          n--;
          stack[n - 1] = joined(op, stack[n - 1], stack[n]);
        }
      }
      return n > 0 && stack[n - 1];
    }

    private static boolean joined(int op, boolean a, boolean b) {
      switch (op) {
        case AND: return a && b;
        case OR: return a || b;
        case IMPLIES: return !a || b;
        default: return a == b;
      }
    }
  }

  /** Reads the tape as a statement or as two curves, up to the first fault. */
  private static final class Reader {
    static final int TERMS = 16;
    private static final int NOTHING = 0, END = 1, NUMBER = 2, X = 3, Y = 4, ROUND = 5, ROUND_END = 6, SQUARE = 7, SQUARE_END = 8,
        DOT = 9, SEMICOLON = 10, PLUS = 11, MINUS = 12, TIMES = 13, POWER = 14, EQUAL = 15, LESS = 16, GREATER = 17, AT_MOST = 18,
        AT_LEAST = 19, UNEQUAL = 20, IMPLIES = 21, SAME = 22, SOME = 23, ALL = 24, NOT = 25, AND = 26, OR = 27, TRUE = 28, FALSE = 29;
    private static final int NO_TOKEN = 1, MISPLACED = 2, BOUND_ALREADY = 3, TOO_MANY = 4, BOUND_AND_FREE = 5, TOO_GREAT = 6;
    private static final int MOST_TOKENS = 120, MOST_OPEN = 10, MOST_LETTERS = 5, MOST_NUMBER_DIGITS = 3;
    private static final int MOST_DEGREE = 3, MOST_COEFFICIENT = 999, MOST_BETWEEN = 1000000;
    /** Three polynomials for each [ that is open, and one beside. */
    private static final int SLOTS = 3 * (MOST_OPEN + 2) + 1, SPARE = SLOTS - 1;

    private final byte[] tape;
    private int length;
    private int next;
    private int token;
    private int place;
    private int number;
    private int tokens;
    int kind;
    int faultPlace;
    private int open;
    private boolean great;
    private int greatPlace;
    private int holder;
    private int free;
    private final boolean[] bound = new boolean[2];
    private final int[][] slot = new int[SLOTS][TERMS];
    private final long[] product = new long[TERMS];
    private final Statement statement;
    final int[][] curve = new int[2][TERMS];

    Reader(byte[] tape, Statement statement) {
      this.tape = tape;
      this.statement = statement;
    }

    void takeStatement(int bytes) {
      start(bytes);
      statement.clear();
      statementRule();
      if (token != END) misplaced();
      statement.free = free;
      if (kind == 0) findBoundAndFree();
      if (kind == 0 && greatPlace != NONE) fail(TOO_GREAT, greatPlace);
      statement.there = kind == 0;
    }

    void takeCurves(int bytes) {
      start(bytes);
      sumRule(0);
      limit(slot[0], MOST_COEFFICIENT);
      copy(slot[0], curve[0]);
      if (token != SEMICOLON) misplaced();
      if (great) greatPlace = place;
      accept();
      great = false;
      sumRule(0);
      limit(slot[0], MOST_COEFFICIENT);
      copy(slot[0], curve[1]);
      if (token != END) misplaced();
      if (great && greatPlace == NONE) greatPlace = length;
      if (kind == 0 && greatPlace != NONE) fail(TOO_GREAT, greatPlace);
    }

    private void start(int bytes) {
      length = bytes;
      next = 0;
      tokens = 0;
      kind = 0;
      faultPlace = 0;
      open = 0;
      great = false;
      greatPlace = NONE;
      holder = OUTERMOST;
      free = 0;
      bound[0] = false;
      bound[1] = false;
      findToken();
    }

    private void findBoundAndFree() {
      for (int q = 0; q < statement.quantifiers && kind == 0; q++) {
        if ((free >> statement.variable[q] & 1) != 0) fail(BOUND_AND_FREE, statement.variablePlace[q]);
      }
    }

    /** The first fault stays; behind it no token fits any rule, so that all rules end. */
    private void fail(int faultKind, int at) {
      if (kind == 0) {
        kind = faultKind;
        faultPlace = at;
      }
      token = NOTHING;
    }

    private void misplaced() {
      fail(MISPLACED, place);
    }

    /** Takes the token, which may stand here, and finds the next one. */
    private void accept() {
      if (token == NOTHING) return;
      tokens++;
      if (tokens > MOST_TOKENS) fail(TOO_MANY, place);
      else findToken();
    }

    /** Takes a token that opens something; false, if that is one too many. */
    private boolean acceptOpening() {
      if (open >= MOST_OPEN) {
        fail(TOO_MANY, place);
        return false;
      }
      open++;
      accept();
      return true;
    }

    private void acceptClosing(int closing) {
      if (token != closing) misplaced();
      accept();
      open--;
    }

    private void findToken() {
      int i = next;
      while (i < length && (tape[i] == 32 || tape[i] == 10)) i++;
      place = i;
      next = i + 1;
      if (i >= length) {
        token = END;
        return;
      }
      int c = tape[i];
      if (c >= 'a' && c <= 'z') token = findWord(i);
      else if (c >= '0' && c <= '9') token = findNumber(i);
      else token = findSign(i, c);
      if (token == NOTHING) fail(NO_TOKEN, place);
    }

    private int findWord(int from) {
      int letters = 0, packed = 0;
      int i = from;
      for (; i < length && tape[i] >= 'a' && tape[i] <= 'z'; i++) {
        letters++;
        if (letters <= MOST_LETTERS) packed = packed << 5 | tape[i] & 31;
      }
      next = i;
      return letters > MOST_LETTERS ? NOTHING : wordToken(packed);
    }

    /** Words come with five bits a letter, a as 1. */
    private static int wordToken(int packed) {
      switch (packed) {
        case 'x' & 31: return X;
        case 'y' & 31: return Y;
        case ('o' & 31) << 5 | 'r' & 31: return OR;
        case ('a' & 31) << 10 | ('n' & 31) << 5 | 'd' & 31: return AND;
        case ('n' & 31) << 10 | ('o' & 31) << 5 | 't' & 31: return NOT;
        case ('a' & 31) << 10 | ('l' & 31) << 5 | 'l' & 31: return ALL;
        case ('s' & 31) << 15 | ('o' & 31) << 10 | ('m' & 31) << 5 | 'e' & 31: return SOME;
        case ('t' & 31) << 15 | ('r' & 31) << 10 | ('u' & 31) << 5 | 'e' & 31: return TRUE;
        case ('f' & 31) << 20 | ('a' & 31) << 15 | ('l' & 31) << 10 | ('s' & 31) << 5 | 'e' & 31: return FALSE;
        default: return NOTHING;
      }
    }

    private int findNumber(int from) {
      int i = from;
      number = 0;
      for (; i < length && tape[i] >= '0' && tape[i] <= '9'; i++) {
        if (i - from < MOST_NUMBER_DIGITS) number = 10 * number + tape[i] - '0';
      }
      next = i;
      return i - from > MOST_NUMBER_DIGITS ? NOTHING : NUMBER;
    }

    private int findSign(int from, int c) {
      int two = from + 1 < length ? doubleSign(c, tape[from + 1]) : NOTHING;
      if (two != NOTHING) next = from + 2;
      return two != NOTHING ? two : singleSign(c);
    }

    private static int doubleSign(int c, int d) {
      if (c == '-' && d == '>') return IMPLIES;
      if (d != '=') return NOTHING;
      switch (c) {
        case '=': return SAME;
        case '<': return AT_MOST;
        case '>': return AT_LEAST;
        case '!': return UNEQUAL;
        default: return NOTHING;
      }
    }

    private static int singleSign(int c) {
      switch (c) {
        case '(': return ROUND;
        case ')': return ROUND_END;
        case '[': return SQUARE;
        case ']': return SQUARE_END;
        case '.': return DOT;
        case ';': return SEMICOLON;
        case '+': return PLUS;
        case '-': return MINUS;
        case '*': return TIMES;
        case '^': return POWER;
        case '=': return EQUAL;
        case '<': return LESS;
        case '>': return GREATER;
        default: return NOTHING;
      }
    }

    private void statementRule() {
      if (token == SOME || token == ALL) {
        quantifierRule();
        return;
      }
      sideRule();
      if (token == IMPLIES || token == SAME) {
        int op = token == IMPLIES ? Statement.IMPLIES : Statement.SAME;
        accept();
        sideRule();
        statement.emit(op, 0);
      }
    }

    private void quantifierRule() {
      boolean some = token == SOME;
      if (!acceptOpening()) return;
      int v = token == X ? 0 : token == Y ? 1 : NONE;
      if (v == NONE) {
        misplaced();
        return;
      }
      if (bound[v]) {
        fail(BOUND_ALREADY, place);
        return;
      }
      int outer = holder;
      int q = statement.open(some, v, place, outer);
      accept();
      if (token != DOT) misplaced();
      accept();
      bound[v] = true;
      holder = q;
      statementRule();
      statement.close(q);
      holder = outer;
      bound[v] = false;
      open--;
    }

    private void sideRule() {
      bothRule();
      for (int i = 0; i < MOST_TOKENS && token == OR; i++) {
        accept();
        bothRule();
        statement.emit(Statement.OR, 0);
      }
    }

    private void bothRule() {
      oneRule();
      for (int i = 0; i < MOST_TOKENS && token == AND; i++) {
        accept();
        oneRule();
        statement.emit(Statement.AND, 0);
      }
    }

    private void oneRule() {
      if (token == NOT) {
        if (!acceptOpening()) return;
        oneRule();
        open--;
        statement.emit(Statement.NOT, 0);
      } else if (token == ROUND) {
        if (!acceptOpening()) return;
        statementRule();
        acceptClosing(ROUND_END);
      } else if (token == TRUE || token == FALSE) {
        statement.emit(token == TRUE ? Statement.TRUE : Statement.FALSE, 0);
        accept();
      } else {
        comparisonRule();
      }
    }

    private void comparisonRule() {
      great = false;
      sumRule(0);
      int relation = relationOf(token);
      if (relation == 0) {
        misplaced();
        return;
      }
      if (statement.comparisons >= Statement.COMPARISONS) {
        fail(TOO_MANY, place);
        return;
      }
      int i = statement.comparisons++;
      int signPlace = place;
      int[] difference = statement.poly[i];
      statement.relation[i] = relation;
      statement.holder[i] = holder;
      copy(slot[0], difference);
      accept();
      sumRule(0);
      addTo(difference, slot[0], -1);
      limit(difference, MOST_COEFFICIENT);
      if (great && greatPlace == NONE) greatPlace = signPlace;
      statement.emit(Statement.COMPARE, i);
    }

    private static int relationOf(int sign) {
      switch (sign) {
        case LESS: return 1;
        case EQUAL: return 2;
        case AT_MOST: return 3;
        case GREATER: return 4;
        case UNEQUAL: return 5;
        case AT_LEAST: return 6;
        default: return 0;
      }
    }

    /** Leaves the sum in the first slot of its level; the level is how many [ are open. */
    private void sumRule(int level) {
      if (level > MOST_OPEN) return;
      int[] sum = slot[3 * level];
      int[] part = slot[3 * level + 1];
      Arrays.fill(sum, 0);
      int sign = 1;
      if (token == MINUS) {
        sign = -1;
        accept();
      }
      productRule(level);
      addTo(sum, part, sign);
      for (int i = 0; i < MOST_TOKENS && (token == PLUS || token == MINUS); i++) {
        sign = token == PLUS ? 1 : -1;
        accept();
        productRule(level);
        addTo(sum, part, sign);
      }
      limit(sum, MOST_BETWEEN);
    }

    private void productRule(int level) {
      int[] part = slot[3 * level + 1];
      int[] power = slot[3 * level + 2];
      powerRule(level);
      copy(power, part);
      for (int i = 0; i < MOST_TOKENS && token == TIMES; i++) {
        accept();
        powerRule(level);
        multiply(part, power);
      }
    }

    private void powerRule(int level) {
      int[] power = slot[3 * level + 2];
      atomRule(level, power);
      if (token != POWER) return;
      accept();
      if (token != NUMBER) {
        misplaced();
        return;
      }
      if (number > MOST_DEGREE) great = true;
      int times = Math.min(number, MOST_DEGREE);
      accept();
      copy(power, slot[SPARE]);
      if (times == 0) setTerm(power, 0, 1);
      for (int i = 1; i < times; i++) multiply(power, slot[SPARE]);
    }

    private void atomRule(int level, int[] atom) {
      if (token == NUMBER) {
        setTerm(atom, 0, number);
        accept();
      } else if (token == X || token == Y) {
        int v = token == X ? 0 : 1;
        if (!bound[v]) free |= v + 1;
        setTerm(atom, v == 0 ? 4 : 1, 1);
        accept();
      } else if (token == SQUARE) {
        if (!acceptOpening()) return;
        sumRule(level + 1);
        acceptClosing(SQUARE_END);
        copy(slot[3 * level + 3], atom);
      } else {
        misplaced();
      }
    }

    /** The coefficient of x to the i, y to the j stands at 4 i + j. */
    static int degree(int[] poly) {
      int most = NONE;
      for (int t = 0; t < TERMS; t++) {
        if (poly[t] != 0) most = Math.max(most, t / 4 + t % 4);
      }
      return most;
    }

    private static void setTerm(int[] poly, int term, int value) {
      Arrays.fill(poly, 0);
      poly[term] = value;
    }

    private static void copy(int[] from, int[] to) {
      System.arraycopy(from, 0, to, 0, TERMS);
    }

    private static void addTo(int[] sum, int[] part, int sign) {
      for (int t = 0; t < TERMS; t++) sum[t] += sign * part[t];
    }

    /** What is too great becomes 0, so that no later number runs over. */
    private void limit(int[] poly, int most) {
      for (int t = 0; t < TERMS; t++) {
        if (poly[t] > most || poly[t] < -most) great = true;
      }
      if (great) Arrays.fill(poly, 0);
    }

    private void multiply(int[] into, int[] by) {
      if (degree(into) + degree(by) > MOST_DEGREE) great = true;
      Arrays.fill(product, 0);
      for (int s = 0; s < TERMS && !great; s++) {
        for (int t = 0; t < TERMS - s; t++) product[s + t] += (long) into[s] * by[t];
      }
      for (int t = 0; t < TERMS; t++) {
        if (product[t] > MOST_BETWEEN || product[t] < -MOST_BETWEEN) great = true;
        into[t] = great ? 0 : (int) product[t];
      }
    }
  }

  /**
   * Whole numbers of any size, one behind the other in one row of ints, so that calls make no objects.
   * A number is told by its place: there stands how many limbs it has (below 0 for a number below 0), then
   * come the limbs of 30 bits, the lowest first. Place 0 holds the number 0. What is made comes at the top;
   * who sets top back to where it was gives free all that was made since.
   */
  private static final class Numbers {
    private static final int BITS = 30, MASK = (1 << BITS) - 1, BILLION = 1000000000, DIGITS = 9;

    int[] w;
    int top = 1;
    /** What the latest division left. */
    int rest;
    private final StringBuilder reversed = new StringBuilder();

    Numbers(int room) {
      w = new int[Math.max(room, 16)];
    }

    void clear() {
      top = 1;
    }

    int sign(int a) {
      return Integer.signum(w[a]);
    }

    int small(int value) {
      if (w.length - top < 3) w = Arrays.copyOf(w, 2 * (top + 3));
      int h = top;
      long size = Math.abs((long) value);
      w[h + 1] = (int) (size & MASK);
      w[h + 2] = (int) (size >> BITS);
      int limbs = w[h + 2] != 0 ? 2 : w[h + 1] != 0 ? 1 : 0;
      w[h] = value < 0 ? -limbs : limbs;
      top = h + 1 + limbs;
      return h;
    }

    /** a + b, or a - b where factor is -1; one of the two itself, where the other is 0. */
    int sum(int a, int b, int factor) {
      if (w[b] == 0) return a;
      if (w[a] == 0 && factor > 0) return b;
      int na = w[a] < 0 ? -w[a] : w[a], nb = w[b] < 0 ? -w[b] : w[b];
      int need = na + nb + 2;
      if (w.length - top < need) w = Arrays.copyOf(w, 2 * (top + need));
      boolean below = w[a] < 0, otherBelow = w[b] < 0 == factor > 0;
      int order = na - nb;
      for (int i = na; i > 0 && order == 0; i--) order = w[a + i] - w[b + i];
      boolean turned = order < 0;
      int big = turned ? b : a, low = turned ? a : b;
      int nBig = turned ? nb : na, nLow = turned ? na : nb;
      int direction = below == otherBelow ? 1 : -1;
      int h = top, carry = 0;
      for (int i = 1; i <= nLow; i++) {
        // two limbs and a carry stay below 2^31
        carry += w[big + i] + direction * w[low + i];
        w[h + i] = carry & MASK;
        carry >>= BITS;
      }
      for (int i = nLow + 1; i <= nBig; i++) {
        carry += w[big + i];
        w[h + i] = carry & MASK;
        carry >>= BITS;
      }
      w[h + nBig + 1] = carry;
      int limbs = nBig + 1;
      while (limbs > 0 && w[h + limbs] == 0) limbs--;
      w[h] = (turned ? otherBelow : below) ? -limbs : limbs;
      top = h + 1 + limbs;
      return h;
    }

    int mul(int a, int b) {
      if (w[a] == 0 || w[b] == 0) return 0;
      int na = w[a] < 0 ? -w[a] : w[a], nb = w[b] < 0 ? -w[b] : w[b];
      int need = na + nb + 1;
      if (w.length - top < need) w = Arrays.copyOf(w, 2 * (top + need));
      int h = top;
      for (int i = 1; i <= na; i++) w[h + i] = 0;
      for (int i = 1; i <= nb; i++) {
        long factor = w[b + i], carry = 0;
        int into = h + i;
        for (int j = 1; j <= na; j++) {
          carry += factor * w[a + j] + w[into];
          w[into] = (int) (carry & MASK);
          carry >>= BITS;
          into++;
        }
        w[into] = (int) carry;
      }
      int limbs = w[h + na + nb] == 0 ? na + nb - 1 : na + nb;
      w[h] = (w[a] < 0) == (w[b] < 0) ? limbs : -limbs;
      top = h + 1 + limbs;
      return h;
    }

    /** a times 2 to the power; a power below 0 rounds down. */
    int shift(int a, int power) {
      if (w[a] == 0 || power == 0) return a;
      int na = w[a] < 0 ? -w[a] : w[a];
      int far = Math.floorDiv(power, BITS), near = power - far * BITS;
      int limbs = na + far + 1 > 0 ? na + far + 1 : 0;
      if (w.length - top < limbs + 2) w = Arrays.copyOf(w, 2 * (top + limbs + 2));
      int h = top;
      for (int i = 1; i <= limbs; i++) {
        int from = i - far;
        int high = from >= 1 && from <= na ? w[a + from] : 0;
        int low = from >= 2 && from <= na + 1 ? w[a + from - 1] : 0;
        w[h + i] = (int) (((long) high << near | (long) low << near >> BITS) & MASK);
      }
      boolean cut = false;
      for (int i = 1; i <= -far && i <= na; i++) cut |= i < -far ? w[a + i] != 0 : (w[a + i] & MASK >> near) != 0;
      if (cut && w[a] < 0) {
        int i = 1;
        for (; i <= limbs && w[h + i] == MASK; i++) w[h + i] = 0;
        if (i > limbs) {
          limbs++;
          w[h + limbs] = 0;
        }
        w[h + i]++;
      }
      while (limbs > 0 && w[h + limbs] == 0) limbs--;
      w[h] = w[a] < 0 ? -limbs : limbs;
      top = h + 1 + limbs;
      return h;
    }

    /** The quotient, cut towards 0; rest is what is left. */
    int div(int a, int b) {
      int na = w[a] < 0 ? -w[a] : w[a], nb = w[b] < 0 ? -w[b] : w[b];
      if (nb == 0 || na < nb) {
        rest = nb == 0 ? 0 : a;
        return 0;
      }
      int need = 2 * na + 6;
      if (w.length - top < need) w = Arrays.copyOf(w, 2 * (top + need));
      int near = Integer.numberOfLeadingZeros(w[b + nb]) - (32 - BITS);
      int u = top, v = u + na + 1, q = v + nb + 1;
      for (int i = 1; i <= na + 1; i++) w[u + i] = MASK & ((i <= na ? w[a + i] << near : 0) | (i > 1 ? w[a + i - 1] >>> BITS - near : 0));
      for (int i = 1; i <= nb; i++) w[v + i] = MASK & (w[b + i] << near | (i > 1 ? w[b + i - 1] >>> BITS - near : 0));
      long high = Math.max(w[v + nb], 1), second = nb > 1 ? w[v + nb - 1] : 0;
      for (int j = na - nb; j >= 0; j--) {
        int last = u + j + nb;
        long head = (long) w[last + 1] << BITS | w[last], third = nb > 1 ? w[last - 1] : 0;
        long guess = head / high, left = head % high;
        for (int t = 0; t < 3 && left <= MASK && (guess > MASK || guess * second > (left << BITS | third)); t++) {
          guess--;
          left += high;
        }
        long carry = 0;
        for (int i = 1; i <= nb; i++) {
          carry += w[u + j + i] - guess * w[v + i];
          w[u + j + i] = (int) (carry & MASK);
          carry >>= BITS;
        }
        if (carry + w[last + 1] < 0) {
          guess--;
          carry = 0;
          for (int i = 1; i <= nb; i++) {
            carry += w[u + j + i] + w[v + i];
            w[u + j + i] = (int) (carry & MASK);
            carry >>= BITS;
          }
        }
        w[last + 1] = 0;
        w[q + 1 + j] = (int) guess;
      }
      for (int i = 1; i <= nb; i++) w[u + i] = w[u + i] >>> near | (i < nb ? w[u + i + 1] << BITS - near & MASK : 0);
      int limbs = nb;
      while (limbs > 0 && w[u + limbs] == 0) limbs--;
      w[u] = w[a] < 0 ? -limbs : limbs;
      limbs = w[q + na - nb + 1] == 0 ? na - nb : na - nb + 1;
      w[q] = (w[a] < 0) == (w[b] < 0) ? limbs : -limbs;
      top = q + 1 + limbs;
      rest = u;
      return q;
    }

    /** The quotient, rounded down; the divisor is above 0. */
    int floor(int a, int b) {
      int q = div(a, b);
      return w[rest] < 0 ? sum(q, small(1), -1) : q;
    }

    /** The greatest common divisor, 0 or above. */
    int gcd(int a, int b) {
      int mark = top;
      int x = a, y = b;
      for (int i = 0; i < ENDLESS && w[y] != 0; i++) {
        div(x, y);
        x = y;
        y = rest;
      }
      return keep(mark, sum(0, x, w[x] < 0 ? -1 : 1));
    }

    /** Whether a is below b (-1), the same (0) or above (1). */
    int compare(int a, int b) {
      int na = w[a], nb = w[b];
      if (na != nb) return na < nb ? -1 : 1;
      for (int i = Math.abs(na); i > 0; i--) {
        if (w[a + i] != w[b + i]) return w[a + i] < w[b + i] == na > 0 ? -1 : 1;
      }
      return 0;
    }

    /** How many bits the size has. */
    int bits(int a) {
      int na = Math.abs(w[a]);
      return na == 0 ? 0 : na * BITS - (Integer.numberOfLeadingZeros(w[a + na]) - (32 - BITS));
    }

    /** Moves a number down to where the row was once free; what was made since is gone. */
    int keep(int mark, int a) {
      int length = 1 + Math.abs(w[a]);
      if (w.length - mark < length) w = Arrays.copyOf(w, 2 * (mark + length));
      System.arraycopy(w, a, w, mark, length);
      top = mark + length;
      return mark;
    }

    /** Nearly the same number as a double; its limbs must be few. */
    double real(int a) {
      double v = 0;
      for (int i = Math.abs(w[a]); i > 0; i--) v = v * (MASK + 1.0) + w[a + i];
      return w[a] < 0 ? -v : v;
    }

    /** What is left of a number divided by a small one, 0 or above. */
    int modulo(int a, int divisor) {
      if (divisor < 1) return 0;
      long left = 0;
      for (int i = Math.abs(w[a]); i > 0; i--) left = (left << BITS | w[a + i]) % divisor;
      return w[a] < 0 && left != 0 ? (int) (divisor - left) : (int) left;
    }

    int power(int base, int exponent) {
      int mark = top;
      int result = small(1), factor = small(base);
      for (int i = 0; i < exponent; i++) result = mul(result, factor);
      return keep(mark, result);
    }

    int bring(Root root) {
      int length = Math.abs(root.size);
      if (w.length - top < length + 1) w = Arrays.copyOf(w, 2 * (top + length + 1));
      int h = top;
      w[h] = root.size;
      System.arraycopy(root.limb, 0, w, h + 1, length);
      top = h + 1 + length;
      return h;
    }

    void lay(int a, int k, Root root) {
      int length = Math.abs(w[a]);
      if (length > root.limb.length) root.limb = new int[length + 4];
      System.arraycopy(w, a + 1, root.limb, 0, length);
      root.size = w[a];
      root.k = k;
    }

    /** Writes the size with at least so many digits. */
    private void spellReversed(int a, int least) {
      int mark = top;
      int left = sum(0, a, w[a] < 0 ? -1 : 1);
      int billion = small(BILLION);
      reversed.setLength(0);
      for (int i = 0; i < ENDLESS && w[left] != 0; i++) {
        left = div(left, billion);
        int digits = w[rest] == 0 ? 0 : w[rest + 1];
        for (int j = 0; j < DIGITS && (digits != 0 || w[left] != 0); j++) {
          reversed.append((char) ('0' + digits % 10));
          digits /= 10;
        }
      }
      for (int i = reversed.length(); i < least; i++) reversed.append('0');
      top = mark;
    }

    void spellSize(int a, StringBuilder out) {
      spellReversed(a, 1);
      for (int i = reversed.length() - 1; i >= 0; i--) out.append(reversed.charAt(i));
    }

    /** Writes a number that stands for itself over 10 to the power of digits. */
    void spellFixed(int a, int digits, StringBuilder out) {
      if (w[a] < 0) out.append('-');
      spellReversed(a, digits + 1);
      for (int i = reversed.length() - 1; i >= 0; i--) {
        out.append(reversed.charAt(i));
        if (i == digits && digits > 0) out.append('.');
      }
    }
  }

  /**
   * Polynomials with whole coefficients, in the same row as their numbers: the degree (-1 for the polynomial 0),
   * then the places of the coefficients, the lowest power first.
   */
  private static final class Polys {
    final Numbers numbers;

    Polys(Numbers numbers) {
      this.numbers = numbers;
    }

    int degree(int p) {
      return numbers.w[p];
    }

    /** The place of a coefficient; that of a power above the degree is 0. */
    int coefficient(int p, int power) {
      return power >= 0 && power <= numbers.w[p] ? numbers.w[p + 1 + power] : 0;
    }

    int make(int degree) {
      Numbers n = numbers;
      int need = degree + 2;
      if (n.w.length - n.top < need) n.w = Arrays.copyOf(n.w, 2 * (n.top + need));
      int h = n.top;
      n.w[h] = degree;
      Arrays.fill(n.w, h + 1, h + need, 0);
      n.top = h + need;
      return h;
    }

    void trim(int p) {
      int[] w = numbers.w;
      int degree = w[p];
      while (degree >= 0 && w[w[p + 1 + degree]] == 0) degree--;
      w[p] = degree;
    }

    /** Moves a polynomial down to where the row was once free; what was made since is gone. */
    int keep(int mark, int p) {
      Numbers n = numbers;
      int degree = n.w[p];
      int need = degree + 2;
      for (int i = 0; i <= degree; i++) need += 1 + Math.abs(n.w[n.w[p + 1 + i]]);
      if (n.w.length - n.top < need) n.w = Arrays.copyOf(n.w, 2 * (n.top + need));
      int h = n.top, next = h + degree + 2;
      n.w[h] = degree;
      for (int i = 0; i <= degree; i++) {
        int c = n.w[p + 1 + i], length = 1 + Math.abs(n.w[c]);
        System.arraycopy(n.w, c, n.w, next, length);
        n.w[h + 1 + i] = next - h + mark;
        next += length;
      }
      System.arraycopy(n.w, h, n.w, mark, need);
      n.top = mark + need;
      return mark;
    }

    /** Copies a polynomial out of another row. */
    int copy(Polys from, int p) {
      Numbers n = numbers;
      int[] source = from.numbers.w;
      int degree = source[p];
      int h = make(degree);
      for (int i = 0; i <= degree; i++) {
        int c = source[p + 1 + i], length = 1 + Math.abs(source[c]);
        if (n.w.length - n.top < length) n.w = Arrays.copyOf(n.w, 2 * (n.top + length));
        System.arraycopy(source, c, n.w, n.top, length);
        n.w[h + 1 + i] = n.top;
        n.top += length;
      }
      return h;
    }

    boolean same(int p, Polys other, int q) {
      int[] w = numbers.w, v = other.numbers.w;
      if (w[p] != v[q]) return false;
      for (int i = 0; i <= w[p]; i++) {
        int a = w[p + 1 + i], b = v[q + 1 + i];
        for (int j = 0; j <= Math.abs(w[a]); j++) {
          if (w[a + j] != v[b + j]) return false;
        }
      }
      return true;
    }

    /** p + q, or p - q where factor is -1. */
    int sum(int p, int q, int factor) {
      Numbers n = numbers;
      int h = make(Math.max(n.w[p], n.w[q]));
      for (int i = 0; i <= n.w[h]; i++) {
        int c = n.sum(coefficient(p, i), coefficient(q, i), factor);
        n.w[h + 1 + i] = c;
      }
      trim(h);
      return h;
    }

    int scale(int p, int number) {
      Numbers n = numbers;
      int h = make(n.w[p]);
      for (int i = 0; i <= n.w[h]; i++) {
        int c = n.mul(n.w[p + 1 + i], number);
        n.w[h + 1 + i] = c;
      }
      trim(h);
      return h;
    }

    int product(int p, int q) {
      Numbers n = numbers;
      int dp = n.w[p], dq = n.w[q];
      if (dp < 0 || dq < 0) return make(-1);
      int h = make(dp + dq);
      for (int k = 0; k <= dp + dq; k++) {
        int mark = n.top, c = 0;
        for (int i = Math.max(0, k - dq); i <= k && i <= dp; i++) c = n.sum(c, n.mul(n.w[p + 1 + i], n.w[q + 1 + k - i]), 1);
        c = n.keep(mark, c);
        n.w[h + 1 + k] = c;
      }
      return h;
    }

    /** a b - c d, without the two products between. */
    int cross(int a, int b, int c, int d) {
      Numbers n = numbers;
      int da = n.w[a], db = n.w[b], dc = n.w[c], dd = n.w[d];
      int first = da < 0 || db < 0 ? -1 : da + db, second = dc < 0 || dd < 0 ? -1 : dc + dd;
      int h = make(Math.max(first, second));
      for (int k = 0; k <= first || k <= second; k++) {
        int mark = n.top, v = 0;
        for (int i = Math.max(0, k - db); i <= k && i <= da && k <= first; i++) v = n.sum(v, n.mul(n.w[a + 1 + i], n.w[b + 1 + k - i]), 1);
        for (int i = Math.max(0, k - dd); i <= k && i <= dc && k <= second; i++) v = n.sum(v, n.mul(n.w[c + 1 + i], n.w[d + 1 + k - i]), -1);
        v = n.keep(mark, v);
        n.w[h + 1 + k] = v;
      }
      trim(h);
      return h;
    }

    int derivative(int p) {
      Numbers n = numbers;
      int h = make(Math.max(n.w[p] - 1, -1));
      for (int i = 0; i <= n.w[h]; i++) {
        int c = n.mul(n.w[p + 2 + i], n.small(i + 1));
        n.w[h + 1 + i] = c;
      }
      return h;
    }

    /** The least form of a polynomial that is not 0. */
    int primitive(int p) {
      Numbers n = numbers;
      int degree = n.w[p], content = 0, mark = n.top;
      for (int i = 0; i <= degree; i++) content = n.gcd(content, n.w[p + 1 + i]);
      if (n.sign(coefficient(p, degree)) < 0) content = n.sum(0, content, -1);
      int h = make(degree);
      for (int i = 0; i <= degree; i++) {
        int c = n.div(n.w[p + 1 + i], content);
        n.w[h + 1 + i] = c;
      }
      return keep(mark, h);
    }

    /** The quotient, if q divides p with whole coefficients, else NONE. */
    int quotient(int p, int q) {
      Numbers n = numbers;
      int dp = n.w[p], dq = n.w[q], mark = n.top;
      if (dp < dq || dq < 0) return NONE;
      int h = make(dp - dq), left = make(dp);
      System.arraycopy(n.w, p + 1, n.w, left + 1, dp + 1);
      for (int k = dp - dq; k >= 0; k--) {
        int c = n.div(n.w[left + 1 + k + dq], n.w[q + 1 + dq]);
        n.w[h + 1 + k] = c;
        boolean fits = n.w[n.rest] == 0;
        for (int i = 0; i < dq && fits; i++) {
          int less = n.sum(n.w[left + 1 + k + i], n.mul(c, n.w[q + 1 + i]), -1);
          n.w[left + 1 + k + i] = less;
        }
        if (!fits) {
          n.top = mark;
          return NONE;
        }
      }
      for (int i = 0; i < dq; i++) {
        if (n.w[n.w[left + 1 + i]] != 0) {
          n.top = mark;
          return NONE;
        }
      }
      return keep(mark, h);
    }

    /** What is left of p times some number, divided by q. */
    private int remainder(int p, int q) {
      Numbers n = numbers;
      int mark = n.top, dq = n.w[q];
      int left = make(n.w[p]);
      System.arraycopy(n.w, p + 1, n.w, left + 1, n.w[p] + 1);
      int lead = n.w[q + 1 + dq];
      for (int d = n.w[left]; d >= dq; d--) {
        int c = n.w[left + 1 + d];
        for (int i = 0; i < d; i++) {
          int less = n.mul(n.w[left + 1 + i], lead);
          if (i >= d - dq) less = n.sum(less, n.mul(c, n.w[q + 1 + i - d + dq]), -1);
          n.w[left + 1 + i] = less;
        }
        n.w[left] = d - 1;
      }
      trim(left);
      return keep(mark, left);
    }

    /** The common divisor of greatest degree, in least form; neither is 0. */
    int gcd(int p, int q) {
      int mark = numbers.top;
      int a = primitive(p), b = primitive(q);
      for (int i = 0; i < ENDLESS && degree(b) > 0; i++) {
        int r = degree(a) < degree(b) ? a : remainder(a, b);
        a = b;
        if (degree(r) < 0) return keep(mark, a);
        b = primitive(r);
      }
      return keep(mark, b);
    }

    /** The value at c over 2 to the power k, times 2 to the power of k times the degree. */
    int value(int p, int c, int k) {
      Numbers n = numbers;
      int degree = n.w[p], mark = n.top;
      int v = coefficient(p, degree);
      for (int i = degree - 1; i >= 0; i--) v = n.sum(n.mul(v, c), n.shift(n.w[p + 1 + i], k * (degree - i)), 1);
      return n.keep(mark, v);
    }

    void spell(int p, StringBuilder out) {
      Numbers n = numbers;
      boolean first = true;
      for (int i = n.w[p]; i >= 0; i--) {
        int c = n.w[p + 1 + i];
        if (n.w[c] == 0) continue;
        if (n.w[c] < 0) out.append('-');
        else if (!first) out.append('+');
        first = false;
        boolean one = Math.abs(n.w[c]) == 1 && n.w[c + 1] == 1;
        if (!one || i == 0) n.spellSize(c, out);
        if (!one && i > 0) out.append('*');
        if (i > 0) out.append('t');
        if (i > 1) out.append('^').append(i);
      }
    }
  }

  /** Splits a polynomial into those that cannot be split: modulo a prime (Berlekamp), lifted (Hensel), then joined. */
  private static final class Splitter {
    /**
     * Enough that one of them fits: one that does not divides the highest coefficient or the discriminant. What comes here has
     * degree 9 at most and coefficients whose sizes add up to less than 7 * 10^21 (or degree 6 at most, and 5 * 10^22), so
     * that the product of those two stays below 10^380 (Mahler's bound); the product of all these primes is above 10^382.
     */
    private static final int[] PRIMES = {13, 17, 19, 23, 29, 31, 37, 41, 43, 47, 53, 59, 61, 67, 71, 73, 79, 83, 89, 97, 101, 103,
        107, 109, 113, 127, 131, 137, 139, 149, 151, 157, 163, 167, 173, 179, 181, 191, 193, 197, 199, 211, 223, 227, 229, 233, 239,
        241, 251, 257, 263, 269, 271, 277, 281, 283, 293, 307, 311, 313, 317, 331, 337, 347, 349, 353, 359, 367, 373, 379, 383, 389,
        397, 401, 409, 419, 421, 431, 433, 439, 443, 449, 457, 461, 463, 467, 479, 487, 491, 499, 503, 509, 521, 523, 541, 547, 557,
        563, 569, 571, 577, 587, 593, 599, 601, 607, 613, 617, 619, 631, 641, 643, 647, 653, 659, 661, 673, 677, 683, 691, 701, 709,
        719, 727, 733, 739, 743, 751, 757, 761, 769, 773, 787, 797, 809, 811, 821, 823, 827, 829, 839, 853, 857, 859, 863, 877, 881,
        883, 887, 907, 911, 919, 929};
    static final int FEW = 3, ALL = 153;
    private static final int MOST = 10, ROOM = 2 * MOST + 2, MOST_PRIME = 929;

    private final Polys polys;
    private int prime = 2;
    private final int[] inverse = new int[MOST_PRIME + 1];
    private int degree;
    private final int[] whole = new int[ROOM];
    private int parts;
    private final int[][] part = new int[MOST][ROOM];
    private final int[] size = new int[MOST];
    private final int[][] matrix = new int[MOST][MOST];
    private final int[] column = new int[MOST];
    private final int[] fixed = new int[ROOM];
    private final int[] one = new int[ROOM];
    private final int[] two = new int[ROOM];
    private final int[] three = new int[ROOM];
    private final int[] four = new int[ROOM];
    private final int[][] helper = new int[MOST][ROOM];
    private final int[] lifted = new int[MOST];
    private int modulus;
    int factors;
    final int[] factor = new int[MOST];

    Splitter(Polys polys) {
      this.polys = polys;
    }

    /** Takes a polynomial that cannot be split as its only factor. */
    void takeWhole(int f) {
      factors = 1;
      factor[0] = f;
    }

    /** Finds one of the first primes modulo which f keeps its degree and has no factor twice. */
    boolean choosePrime(int f, int tries) {
      degree = polys.degree(f);
      if (degree < 1 || degree >= MOST) return false;
      for (int t = 0; t < tries && t < PRIMES.length; t++) {
        takePrime(PRIMES[t]);
        int lead = polys.numbers.modulo(polys.coefficient(f, degree), prime);
        if (lead == 0) continue;
        int turn = inverse[lead];
        for (int i = 0; i <= degree; i++) whole[i] = polys.numbers.modulo(polys.coefficient(f, i), prime) * turn % prime;
        System.arraycopy(whole, 0, one, 0, degree + 1);
        for (int i = 1; i <= degree; i++) two[i - 1] = whole[i] * i % prime;
        if (common(degree, trimmed(two, degree - 1)) == 0) return true;
      }
      return false;
    }

    private void takePrime(int p) {
      prime = p;
      inverse[1] = 1;
      for (int i = 2; i < p; i++) inverse[i] = (p - p / i) * inverse[p % i] % p;
    }

    private static int trimmed(int[] a, int degree) {
      int d = Math.min(degree, a.length - 1);
      while (d >= 0 && a[d] == 0) d--;
      return d;
    }

    /** Leaves in a what is left of it divided by b, and the quotient in q; answers the new degree of a. */
    private int reduce(int[] a, int da, int[] b, int db, int[] q) {
      if (db < 0) return da;
      int turn = inverse[b[db]];
      for (int k = da - db; k >= 0; k--) {
        int c = a[k + db] * turn % prime;
        q[k] = c;
        for (int i = 0; i <= db; i++) a[k + i] = (a[k + i] + (prime - c) * b[i]) % prime;
      }
      int left = Math.min(da, db - 1);
      while (left >= 0 && a[left] == 0) left--;
      return left;
    }

    /** The common divisor of one and two comes, with the highest coefficient 1, into one; answers its degree. */
    private int common(int degreeOne, int degreeTwo) {
      int da = degreeOne, db = degreeTwo;
      for (int i = 0; i <= MOST && db >= 0; i++) {
        int left = reduce(one, da, two, db, three);
        System.arraycopy(two, 0, three, 0, db + 1);
        System.arraycopy(one, 0, two, 0, left + 1);
        System.arraycopy(three, 0, one, 0, db + 1);
        da = db;
        db = left;
      }
      if (da < 0) return da;
      int turn = inverse[one[da]];
      for (int i = 0; i <= da; i++) one[i] = one[i] * turn % prime;
      return da;
    }

    /** Finds the parts modulo the prime; false, if there is only one. */
    boolean split() {
      parts = 1;
      size[0] = degree;
      System.arraycopy(whole, 0, part[0], 0, degree + 1);
      fillMatrix();
      Arrays.fill(column, NONE);
      for (int k = 0; k < degree; k++) {
        int j = 0;
        while (j < degree && (matrix[k][j] == 0 || column[j] != NONE)) j++;
        if (j < degree) sweep(k, j);
        else if (k > 0) splitBy(k);
      }
      return parts > 1;
    }

    /** Row i is x to the power of i times the prime, less x to the power of i. */
    private void fillMatrix() {
      Arrays.fill(one, 0);
      one[0] = 1;
      for (int i = 0; i < degree; i++) {
        System.arraycopy(one, 0, matrix[i], 0, degree);
        matrix[i][i] = (matrix[i][i] + prime - 1) % prime;
        for (int t = 0; t < prime; t++) {
          int high = prime - one[degree - 1];
          for (int j = degree - 1; j > 0; j--) one[j] = (one[j - 1] + high * whole[j]) % prime;
          one[0] = high * whole[0] % prime;
        }
      }
    }

    private void sweep(int k, int j) {
      int turn = prime - inverse[matrix[k][j]];
      for (int i = 0; i < degree; i++) matrix[i][j] = matrix[i][j] * turn % prime;
      for (int s = 0; s < degree; s++) {
        int c = matrix[k][s];
        for (int i = 0; i < degree && s != j; i++) matrix[i][s] = (matrix[i][s] + c * matrix[i][j]) % prime;
      }
      column[j] = k;
    }

    /** Uses a polynomial that is its own power modulo the whole: less some number it has a factor with each part. */
    private void splitBy(int k) {
      Arrays.fill(fixed, 0);
      fixed[k] = 1;
      for (int s = 0; s < degree; s++) {
        if (column[s] != NONE) fixed[column[s]] = matrix[k][s];
      }
      int before = parts;
      for (int i = 0; i < before; i++) {
        for (int s = 0; s < prime && size[i] > 1; s++) {
          System.arraycopy(part[i], 0, one, 0, size[i] + 1);
          System.arraycopy(fixed, 0, two, 0, degree);
          two[0] = (two[0] + s) % prime;
          int d = common(size[i], trimmed(two, degree - 1));
          if (d < 1 || d >= size[i] || parts >= MOST) continue;
          System.arraycopy(one, 0, part[parts], 0, d + 1);
          size[parts] = d;
          reduce(part[i], size[i], part[parts], d, four);
          size[i] -= d;
          System.arraycopy(four, 0, part[i], 0, size[i] + 1);
          parts++;
        }
      }
    }

    /** For each part the inverse, modulo it, of the product of all others. */
    private void findHelpers() {
      for (int i = 0; i < parts; i++) {
        System.arraycopy(whole, 0, one, 0, degree + 1);
        reduce(one, degree, part[i], size[i], four);
        int d = degree - size[i];
        System.arraycopy(four, 0, two, 0, d + 1);
        d = reduce(two, d, part[i], size[i], four);
        System.arraycopy(part[i], 0, one, 0, size[i] + 1);
        invert(size[i], d, helper[i]);
      }
    }

    /** The inverse of two modulo one, by Euclid's way; the numbers of the way stand in three and into. */
    private void invert(int degreeOne, int degreeTwo, int[] into) {
      int da = degreeOne, db = degreeTwo, now = 0;
      Arrays.fill(three, 0);
      Arrays.fill(into, 0);
      into[0] = 1;
      for (int i = 0; i <= MOST && db > 0; i++) {
        Arrays.fill(four, 0);
        int left = reduce(one, da, two, db, four);
        for (int j = 0; j <= MOST; j++) {
          int swap = one[j];
          one[j] = two[j];
          two[j] = swap;
        }
        int high = da - db;
        for (int s = 0; s <= high; s++) {
          for (int t = 0; t <= now; t++) three[s + t] = (three[s + t] + (prime - four[s]) * into[t]) % prime;
        }
        now += high;
        for (int j = 0; j <= MOST; j++) {
          int swap = three[j];
          three[j] = into[j];
          into[j] = swap;
        }
        da = db;
        db = left;
      }
      int turn = db == 0 ? inverse[two[0]] : 0;
      for (int j = 0; j <= MOST; j++) into[j] = into[j] * turn % prime;
    }

    /** Lifts the parts to a power of the prime above twice any coefficient that a factor of f can have. */
    void lift(int f) {
      Numbers n = polys.numbers;
      findHelpers();
      int lead = polys.coefficient(f, degree), turn = inverse[n.modulo(lead, prime)], most = 0;
      for (int i = 0; i <= degree; i++) most = Math.max(most, n.bits(polys.coefficient(f, i)));
      for (int i = 0; i < parts; i++) lifted[i] = polyOf(part[i], size[i]);
      modulus = n.small(prime);
      // a factor's coefficients, times f's highest one over its own, are at most 2^degree times f's length
      for (int step = 0; step < ENDLESS && n.bits(modulus) < most + degree + 5; step++) {
        int all = polys.scale(lifted[0], lead);
        for (int i = 1; i < parts; i++) all = polys.product(all, lifted[i]);
        int error = polys.sum(f, all, -1);
        for (int i = 0; i < degree; i++) fixed[i] = n.modulo(n.div(polys.coefficient(error, i), modulus), prime) * turn % prime;
        for (int i = 0; i < parts; i++) mend(i);
        modulus = n.mul(modulus, n.small(prime));
      }
    }

    private int polyOf(int[] a, int d) {
      Numbers n = polys.numbers;
      int h = polys.make(d);
      for (int i = 0; i <= d; i++) {
        int c = n.small(a[i]);
        n.w[h + 1 + i] = c;
      }
      polys.trim(h);
      return h;
    }

    /** Adds to a lifted part its share of the error, which stands in fixed, times the modulus. */
    private void mend(int i) {
      System.arraycopy(fixed, 0, two, 0, degree);
      int d = reduce(two, trimmed(two, degree - 1), part[i], size[i], four);
      Arrays.fill(three, 0);
      for (int s = 0; s <= d; s++) {
        for (int t = 0; t < size[i]; t++) three[s + t] = (three[s + t] + two[s] * helper[i][t]) % prime;
      }
      d = reduce(three, trimmed(three, 2 * size[i]), part[i], size[i], four);
      lifted[i] = polys.sum(lifted[i], polys.scale(polyOf(three, d), modulus), 1);
    }

    /** Finds the true factors as products of lifted parts. */
    void join(int f) {
      int left = f, alive = (1 << parts) - 1;
      factors = 0;
      for (int count = 1; count <= parts; count++) {
        for (int set = 1; set < 1 << parts; set++) {
          if (Integer.bitCount(set) != count || (set & ~alive) != 0 || 2 * count > Integer.bitCount(alive)) continue;
          int mark = polys.numbers.top;
          int candidate = polys.primitive(chosen(set, left));
          int other = polys.quotient(left, candidate);
          if (other == NONE) {
            polys.numbers.top = mark;
            continue;
          }
          factor[factors] = candidate;
          factors++;
          left = other;
          alive &= ~set;
        }
      }
      if (polys.degree(left) > 0 && factors < MOST) {
        factor[factors] = left;
        factors++;
      }
    }

    /** The product of some lifted parts with the highest coefficient of what is left, as near to 0 as the modulus lets it. */
    private int chosen(int set, int left) {
      Numbers n = polys.numbers;
      int result = polys.make(0);
      n.w[result + 1] = polys.coefficient(left, polys.degree(left));
      for (int i = 0; i < parts; i++) {
        if ((set >> i & 1) == 0) continue;
        result = polys.product(result, lifted[i]);
        for (int j = 0; j <= polys.degree(result); j++) {
          n.div(polys.coefficient(result, j), modulus);
          int c = n.rest;
          if (n.compare(n.shift(c, 1), modulus) > 0) c = n.sum(c, modulus, -1);
          else if (n.compare(n.sum(0, n.shift(c, 1), -1), modulus) > 0) c = n.sum(c, modulus, 1);
          n.w[result + 1 + j] = c;
        }
      }
      polys.trim(result);
      return result;
    }
  }

  /** A real root of a polynomial: at or above size over 2 to the power k, below what comes next there. */
  private static final class Root {
    /** Where its least polynomial stands on the shelf of its list. */
    int poly;
    int degree;
    int place;
    int k;
    int size;
    int[] limb = new int[4];
    /** The sign of the least polynomial between this root and the one before. */
    int left;
    /** On a line: the curve that it is on, which one it is from above, how often it is a root. */
    int curve;
    int rank;
    int times;
    /** On a line: how it was sought last, and how far. */
    int phase;
    int reach;
    boolean inDoubt;
  }

  /** Real roots of polynomials in order, each once, with their least polynomials. */
  private static final class Roots {
    /** So many bits behind the point part most roots. */
    private static final int FIRST_BITS = 32;

    private final Polys polys;
    private final Numbers numbers;
    private final Splitter splitter;
    final Polys shelf = new Polys(new Numbers(64));
    private final ArrayList<Root> list = new ArrayList<>();
    int count;
    private int[] known = new int[16];
    private int knownCount;
    int betweenK;

    Roots(Polys polys, Splitter splitter) {
      this.polys = polys;
      this.splitter = splitter;
      numbers = polys.numbers;
    }

    void clear() {
      count = 0;
      knownCount = 0;
      shelf.numbers.clear();
    }

    Root get(int i) {
      return i >= 0 && i < count ? list.get(i) : null;
    }

    private Root append() {
      if (count >= list.size()) list.add(new Root());
      Root root = list.get(count);
      count++;
      return root;
    }

    /** Copies a root of another list behind the roots of this one; answers its number. */
    int takeRoot(Roots other, int i) {
      Root from = other.get(i);
      if (from == null) return NONE;
      Root root = append();
      root.poly = shelf.copy(other.shelf, from.poly);
      root.degree = from.degree;
      root.place = from.place;
      root.left = from.left;
      int mark = numbers.top;
      numbers.lay(numbers.bring(from), from.k, root);
      numbers.top = mark;
      return count - 1;
    }

    /** Adds all real roots of a polynomial that are not here yet; they come behind the others. */
    void add(int poly) {
      if (polys.degree(poly) < 1) return;
      int mark = numbers.top;
      int f = polys.primitive(poly);
      boolean good = splitter.choosePrime(f, Splitter.FEW);
      if (!good) {
        int twice = polys.gcd(f, polys.derivative(f));
        int once = polys.degree(twice) > 0 ? polys.quotient(f, twice) : NONE;
        if (once != NONE) f = once;
        good = splitter.choosePrime(f, Splitter.ALL);
      }
      splitter.takeWhole(f);
      if (good && polys.degree(f) > 1 && splitter.split()) {
        splitter.lift(f);
        splitter.join(f);
      }
      for (int i = 0; i < splitter.factors; i++) addLeast(splitter.factor[i]);
      numbers.top = mark;
    }

    private void addLeast(int f) {
      for (int i = 0; i < knownCount; i++) {
        if (polys.same(f, shelf, known[i])) return;
      }
      if (knownCount >= known.length) known = Arrays.copyOf(known, 2 * knownCount + 2);
      int kept = shelf.copy(polys, f);
      known[knownCount] = kept;
      knownCount++;
      if (polys.degree(f) > 1) isolate(f, kept);
      else describe(append(), kept, 1, 0);
    }

    private void describe(Root root, int kept, int degree, int place) {
      root.poly = kept;
      root.degree = degree;
      root.place = place;
      // nothing is known yet of where it is
      root.k = NONE;
      // the highest coefficient is above 0, and each root turns the sign
      root.left = (degree + place) % 2 == 0 ? 1 : -1;
    }

    /** Cuts what lies between two powers of 2 in halves till each piece has at most one root (Descartes' rule of signs). */
    private void isolate(int f, int kept) {
      Numbers n = numbers;
      int bound = boundOf(f), power = bound, place = 0, mark = n.top;
      int c = n.small(-1);
      for (int step = 0; step < ENDLESS; step++) {
        int turns = turnsBetween(f, c, power);
        if (turns == 1) {
          Root root = append();
          describe(root, kept, polys.degree(f), place);
          n.lay(c, -power, root);
          place++;
        }
        if (turns > 1) {
          c = n.shift(c, 1);
          power--;
        } else {
          c = n.sum(c, n.small(1), 1);
          for (; power < bound && (n.w[c] == 0 || (n.w[c + 1] & 1) == 0); power++) c = n.shift(c, -1);
          if (power == bound && n.sign(c) > 0) break;
        }
        c = n.keep(mark, c);
      }
      n.top = mark;
    }

    /** A power of 2 above the size of every root. */
    private int boundOf(int f) {
      int degree = polys.degree(f), most = 1;
      int lead = numbers.bits(polys.coefficient(f, degree));
      for (int i = 1; i <= degree; i++) {
        int bits = numbers.bits(polys.coefficient(f, degree - i));
        if (bits > 0) most = Math.max(most, Math.floorDiv(bits - lead + i, i) + 1);
      }
      return most;
    }

    /** How often the sign turns: 0 or 1 is how many roots there are between c and c + 1 times 2 to the power. */
    private int turnsBetween(int f, int c, int power) {
      Numbers n = numbers;
      int mark = n.top, d = polys.degree(f), h = polys.make(d);
      for (int i = 0; i <= d; i++) {
        int part = n.shift(polys.coefficient(f, i), power >= 0 ? power * i : -power * (d - i));
        n.w[h + 1 + i] = part;
      }
      for (int i = 0; i < d && n.w[c] != 0; i++) {
        for (int j = d - 1; j >= i; j--) {
          int part = n.sum(n.w[h + 1 + j], n.mul(n.w[h + 2 + j], c), 1);
          n.w[h + 1 + j] = part;
        }
      }
      // with the coefficients read from the other side the piece reaches from 1 to infinity
      for (int i = 0; i < d; i++) {
        for (int j = 1; j <= d - i; j++) {
          int part = n.sum(n.w[h + 1 + j], n.w[h + j], 1);
          n.w[h + 1 + j] = part;
        }
      }
      int turns = 0, before = 0;
      for (int i = 0; i <= d; i++) {
        int sign = n.sign(n.w[h + 1 + i]);
        if (sign * before < 0) turns++;
        if (sign != 0) before = sign;
      }
      n.top = mark;
      return turns;
    }

    /** Makes a root known to k bits behind the point. */
    void sharpen(Root root, int k) {
      if (root.k >= k) return;
      Numbers n = numbers;
      int mark = n.top, p = polys.copy(shelf, root.poly);
      if (root.degree == 1) {
        int up = n.sum(0, polys.coefficient(p, 0), -1);
        n.lay(n.floor(n.shift(up, k), polys.coefficient(p, 1)), k, root);
      } else {
        halve(root, p);
        approach(root, p, k);
      }
      n.top = mark;
    }

    /** Cuts the piece in halves till it is one unit long. */
    private void halve(Root root, int p) {
      Numbers n = numbers;
      for (int k = root.k; k < 0; k++) {
        int c = n.sum(n.shift(n.bring(root), 1), n.small(1), 1);
        int v = polys.value(p, n.shift(c, -k - 1), 0);
        n.lay(n.sign(v) == root.left ? c : n.sum(c, n.small(1), -1), k + 1, root);
      }
    }

    /** Guesses the place in the piece by the values at its ends, doubling the bits of a guess that was right. */
    private void approach(Root root, int p, int k) {
      Numbers n = numbers;
      int one = n.small(1), a = n.bring(root), now = root.k;
      int low = polys.value(p, a, now), high = polys.value(p, n.sum(a, one, 1), now);
      int step = 2;
      for (int i = 0; i < ENDLESS && now < k; i++) {
        step = Math.min(step, k - now);
        int guess = step == 1 ? one : n.div(n.shift(low, step), n.sum(low, high, -1));
        int c = n.sum(n.shift(a, step), guess, 1);
        int v = polys.value(p, c, now + step);
        boolean above = n.sign(v) == root.left;
        int next = n.sum(c, one, above ? 1 : -1);
        int u = polys.value(p, next, now + step);
        if ((n.sign(u) == root.left) == above) {
          step = Math.max(step / 2, 1);
          continue;
        }
        now += step;
        step *= 2;
        a = above ? c : next;
        low = above ? v : u;
        high = above ? u : v;
      }
      n.lay(a, now, root);
    }

    private int compare(Root r, Root s) {
      Numbers n = numbers;
      for (int i = 0; i < ENDLESS; i++) {
        int k = Math.max(r.k, s.k), mark = n.top;
        sharpen(r, k);
        sharpen(s, k);
        int order = n.compare(n.bring(r), n.bring(s));
        n.top = mark;
        if (order != 0) return order;
        sharpen(r, k + k / 2 + 8);
      }
      return 0;
    }

    void sort() {
      for (int i = 0; i < count; i++) sharpen(list.get(i), FIRST_BITS);
      for (int i = 1; i < count; i++) {
        Root root = list.get(i);
        int low = 0, high = i;
        for (int step = 0; step < 32 && low < high; step++) {
          int middle = (low + high) / 2;
          if (compare(list.get(middle), root) < 0) low = middle + 1;
          else high = middle;
        }
        for (int j = i; j > low; j--) list.set(j, list.get(j - 1));
        list.set(low, root);
      }
    }

    /** A number strictly between roots i - 1 and i, as what is answered over 2 to the power betweenK. */
    int between(int i) {
      Numbers n = numbers;
      Root r = get(i - 1), s = get(i);
      betweenK = 0;
      if (r == null && s == null || r == null && s.size > 0 || s == null && r.size < 0) return n.small(0);
      if (r == null) return n.sum(n.shift(n.bring(s), -s.k), n.small(1), -1);
      int one = n.small(1);
      if (s == null) return n.sum(n.shift(n.bring(r), -r.k), one, 1);
      for (int round = 0; round < ENDLESS; round++) {
        int k = Math.max(r.k, s.k);
        sharpen(r, k);
        sharpen(s, k);
        int low = n.sum(n.bring(r), one, 1), high = n.bring(s);
        if (n.compare(low, high) < 0) return simplest(low, n.sum(high, one, -1), k);
        sharpen(r, k + 4);
      }
      return n.small(0);
    }

    /** The number with the least power of 2 below it from low to high, both over 2 to the power k. */
    private int simplest(int low, int high, int k) {
      Numbers n = numbers;
      if (n.sign(low) <= 0 && n.sign(high) >= 0) return n.small(0);
      for (betweenK = 0; betweenK < k; betweenK++) {
        // of what is above 0 the lowest is short, of what is below 0 the highest
        int c = n.sign(low) > 0 ? n.sum(0, n.shift(n.sum(0, low, -1), betweenK - k), -1) : n.shift(high, betweenK - k);
        int full = n.shift(c, k - betweenK);
        if (n.compare(full, low) >= 0 && n.compare(full, high) <= 0) return c;
      }
      return low;
    }

    /** The root times 10 to the power of digits, rounded down. */
    int scaledDown(Root root, int digits) {
      Numbers n = numbers;
      int ten = n.power(10, digits);
      if (root.degree == 1) {
        int p = polys.copy(shelf, root.poly);
        return n.floor(n.mul(n.sum(0, polys.coefficient(p, 0), -1), ten), polys.coefficient(p, 1));
      }
      int one = n.small(1), low = 0;
      sharpen(root, 4 * digits + 8);
      for (int round = 0; round < ENDLESS; round++) {
        int a = n.bring(root);
        low = n.shift(n.mul(a, ten), -root.k);
        int high = n.shift(n.sum(n.mul(n.sum(a, one, 1), ten), one, -1), -root.k);
        if (n.compare(low, high) == 0) return low;
        sharpen(root, root.k + 32);
      }
      return low;
    }

    /** The only root here that can be the same as a root on a line; NONE, while there are several. */
    int onlyOneAt(Root other) {
      int found = NONE;
      for (int i = 0; i < count; i++) {
        if (!touches(list.get(i), other)) continue;
        if (found != NONE) return NONE;
        found = i;
      }
      return found;
    }

    private boolean touches(Root root, Root other) {
      if (other == null) return false;
      Numbers n = numbers;
      sharpen(root, other.k + 2);
      int k = Math.max(root.k, other.k), mark = n.top, one = n.small(1);
      int a = n.bring(root), b = n.bring(other);
      boolean below = n.compare(n.shift(n.sum(a, one, 1), k - root.k), n.shift(b, k - other.k)) < 0;
      boolean above = n.compare(n.shift(n.sum(b, one, 1), k - other.k), n.shift(a, k - root.k)) < 0;
      n.top = mark;
      return !below && !above;
    }
  }

  /** One number on the outer axis, a fraction or a root, and the signs that polynomials have there. */
  private static final class Spot {
    private static final int MORE_BITS = 24;
    /** Far below where doubles end, and few enough that rounding stays far below one of CAUTION parts. */
    private static final int MOST_REAL_BITS = 400;
    static final long CAUTION = 1L << 48;

    private final Polys polys;
    private final Numbers numbers;
    private Root root;
    private int degree;
    private int least;
    private int up;
    private int low;
    private int middle;
    private int spread;
    double value;
    double error;

    Spot(Polys polys) {
      this.polys = polys;
      numbers = polys.numbers;
    }

    void standOnFraction(int above, int below) {
      root = null;
      degree = 1;
      up = above;
      low = below;
    }

    /** Of cells an odd one is a root alone, an even one is what lies between two roots, below or above all. */
    void standOnCell(Roots roots, int cell) {
      root = cell % 2 == 1 ? roots.get(cell / 2) : null;
      if (root == null) {
        int above = roots.between(cell / 2);
        standOnFraction(above, numbers.shift(numbers.small(1), roots.betweenK));
        return;
      }
      degree = root.degree;
      least = polys.copy(roots.shelf, root.poly);
      up = numbers.sum(0, polys.coefficient(least, 0), -1);
      low = polys.coefficient(least, 1);
    }

    int signOf(int g) {
      int d = polys.degree(g);
      if (d < 1) return numbers.sign(polys.coefficient(g, 0));
      if (root == null || degree == 1) return signAtFraction(g);
      int mark = numbers.top;
      boolean zero = d >= degree && polys.quotient(g, least) != NONE;
      numbers.top = mark;
      if (zero) return 0;
      for (int round = 0; round < ENDLESS; round++) {
        int sign = surelySignOf(g);
        if (sign != 0) return sign;
        halveRoot();
      }
      return 0;
    }

    boolean isZero(int g) {
      int d = polys.degree(g);
      if (d < 1) return d < 0;
      if (root == null || degree == 1) return signAtFraction(g) == 0;
      int mark = numbers.top;
      boolean zero = d >= degree && polys.quotient(g, least) != NONE;
      numbers.top = mark;
      return zero;
    }

    private int signAtFraction(int g) {
      Numbers n = numbers;
      int mark = n.top, d = polys.degree(g);
      int v = polys.coefficient(g, d), below = low;
      for (int i = d - 1; i >= 0; i--) {
        v = n.sum(n.mul(v, up), n.mul(polys.coefficient(g, i), below), 1);
        below = n.mul(below, low);
      }
      n.top = mark;
      return n.sign(v);
    }

    /**
     * The sign that a polynomial has all over the piece where the root is known to lie; 0, if that may be none.
     * Its value there, times 2 to the power k, is nowhere farther from middle than spread.
     */
    private int surelySignOf(int g) {
      Numbers n = numbers;
      int mark = n.top, k = root.k, d = polys.degree(g);
      int a = n.bring(root), one = n.small(1), two = n.small(2);
      int most = n.sum(n.sum(0, a, n.sign(a)), one, 1);
      int v = n.shift(polys.coefficient(g, d), k), off = 0;
      for (int i = d - 1; i >= 0; i--) {
        int far = n.sum(n.mul(off, most), n.sum(0, v, n.sign(v)), 1);
        off = n.sum(n.shift(far, -k), two, 1);
        v = n.sum(n.shift(n.mul(v, a), -k), n.shift(polys.coefficient(g, i), k), 1);
      }
      middle = v;
      spread = off;
      int sign = n.sign(v);
      boolean sure = n.compare(n.sum(0, v, sign), off) > 0;
      n.top = mark;
      return sure ? sign : 0;
    }

    /** Whether the value of a polynomial of degree 3 at most fits into doubles: its middle and how far it may be off. */
    boolean measure(int g) {
      Numbers n = numbers;
      int mark = n.top;
      if (root == null || degree == 1) {
        int v = polys.coefficient(g, 3), below = low;
        for (int i = 2; i >= 0; i--) {
          v = n.sum(n.mul(v, up), n.mul(polys.coefficient(g, i), below), 1);
          below = n.mul(below, low);
        }
        middle = v;
        spread = 0;
      } else {
        surelySignOf(g);
      }
      n.top = mark;
      if (n.bits(middle) > MOST_REAL_BITS || n.bits(spread) > MOST_REAL_BITS) return false;
      value = n.real(middle);
      double off = n.real(spread);
      error = off + (off + (value < 0 ? -value : value)) / CAUTION;
      return true;
    }

    private void halveRoot() {
      Numbers n = numbers;
      int mark = n.top, one = n.small(1), a = n.bring(root), k = root.k;
      for (int i = 0; i < MORE_BITS; i++) {
        int c = n.sum(n.shift(a, 1), one, 1);
        k++;
        int v = polys.coefficient(least, degree);
        for (int j = degree - 1; j >= 0; j--) v = n.sum(n.mul(v, c), n.shift(polys.coefficient(least, j), k * (degree - j)), 1);
        a = n.sign(v) == root.left ? c : n.sum(c, one, -1);
      }
      n.lay(a, k, root);
      n.top = mark;
    }
  }

  /** Up to five polynomials in two variables, as polynomials in the inner one whose coefficients are such in the outer one. */
  private static final class Curves {
    private static final int MOST = 5, POWERS = 4;

    private final Polys polys;
    private final Numbers numbers;
    private final int[] coefficient = new int[MOST * POWERS];
    /** In the inner variable; -1 for the polynomial 0. */
    final int[] degree = new int[MOST];
    /** For two curves what is 0 where they may meet, or 0, if that was not asked. */
    private final int[] meeting = new int[MOST * MOST];
    /** For each curve of degree 2 or 3 its discriminant, and for one of degree 3 its middle term. */
    private final int[] turn = new int[MOST];
    private final int[] middle = new int[MOST];
    /** Bezout's matrix of two curves, its upper half row by row. */
    private final int[] matrix = new int[6];

    Curves(Polys polys) {
      this.polys = polys;
      numbers = polys.numbers;
    }

    /** Axis 0: x is the outer variable, 1: y. */
    void take(int[][] poly, int count, int axis) {
      Numbers n = numbers;
      Arrays.fill(meeting, 0);
      for (int i = 0; i < count && i < MOST; i++) {
        degree[i] = NONE;
        for (int inner = 0; inner < POWERS; inner++) {
          int h = polys.make(POWERS - 1 - inner);
          for (int outer = 0; outer < POWERS - inner; outer++) {
            int c = n.small(poly[i][axis == 0 ? 4 * outer + inner : 4 * inner + outer]);
            n.w[h + 1 + outer] = c;
          }
          polys.trim(h);
          coefficient[i * POWERS + inner] = h;
          if (polys.degree(h) >= 0) degree[i] = inner;
        }
        if (degree[i] == 2) turn[i] = squareTerm(i);
        if (degree[i] == 3) takeCubic(i);
      }
    }

    int coefficient(int i, int power) {
      return coefficient[i * POWERS + power];
    }

    /** b^2 - 4 a c. */
    private int squareTerm(int i) {
      int b = coefficient(i, 1);
      int ac = polys.product(coefficient(i, 2), coefficient(i, 0));
      return polys.sum(polys.product(b, b), polys.scale(ac, numbers.small(4)), -1);
    }

    /** b^2 - 3 a c of a cubic: 0 as well where all three roots are one. */
    private int cubicTerm(int i) {
      int b = coefficient(i, 2);
      int ac = polys.product(coefficient(i, 3), coefficient(i, 1));
      return polys.sum(polys.product(b, b), polys.scale(ac, numbers.small(3)), -1);
    }

    /** The middle term is 2 b^3 - 9 a b c + 27 a^2 d, the discriminant comes times 27 a^2. */
    private void takeCubic(int i) {
      int a = coefficient(i, 3), b = coefficient(i, 2);
      int first = polys.scale(polys.product(b, polys.product(b, b)), numbers.small(2));
      int second = polys.scale(polys.product(a, polys.product(b, coefficient(i, 1))), numbers.small(9));
      int third = polys.scale(polys.product(a, polys.product(a, coefficient(i, 0))), numbers.small(27));
      int q = polys.sum(polys.sum(first, second, -1), third, 1), p = cubicTerm(i);
      middle[i] = q;
      turn[i] = polys.sum(polys.scale(polys.product(p, polys.product(p, p)), numbers.small(4)), polys.product(q, q), -1);
    }

    /** Of a curve of degree 2 or 3: above 0, 0 or below 0 where all its roots are real and apart, two are one, two are not real. */
    int discriminant(int i) {
      return turn[i];
    }

    /** Its sign is that of the cubic at the mean of its roots. */
    int middleTerm(int i) {
      return middle[i];
    }

    /** What is 0 where the curve has fewer points than beside it. */
    int turns(int i) {
      if (degree[i] < 2) return polys.make(-1);
      return polys.degree(turn[i]) < 0 && degree[i] == 3 ? cubicTerm(i) : turn[i];
    }

    /** What is 0 where two curves have more points in common than beside it. */
    int crossing(int i, int j) {
      bezout(i, degree[i], j, degree[j]);
      int most = Math.max(degree[i], degree[j]);
      int result = minor(most, 0);
      meeting[i * MOST + j] = result;
      for (int k = 1; k < most && polys.degree(result) < 0; k++) result = minor(most, k);
      return result;
    }

    /** What is 0 where curves i and j (the lesser first) meet, if crossing() was asked; else 0. */
    int meeting(int i, int j) {
      return meeting[i * MOST + j];
    }

    /** Bezout's matrix of two curves up to the powers di, dj of the inner variable. */
    void bezout(int i, int di, int j, int dj) {
      int zero = polys.make(-1);
      for (int s = 0, next = 0; s < 3; s++) {
        int p = s <= di ? coefficient(i, s) : zero, q = s <= dj ? coefficient(j, s) : zero;
        for (int t = s + 1; t <= 3; t++) {
          matrix[next] = polys.cross(t <= di ? coefficient(i, t) : zero, q, p, t <= dj ? coefficient(j, t) : zero);
          next++;
        }
      }
      matrix[3] = polys.sum(matrix[3], matrix[2], 1);
    }

    /** The minor of the last rows and columns but k, where most is the greater degree: 0, if more than k roots are common. */
    int minor(int most, int k) {
      int[] m = matrix;
      if (most == 3 && k == 0) {
        int first = polys.product(m[0], polys.cross(m[3], m[5], m[4], m[4]));
        int second = polys.product(m[1], polys.cross(m[1], m[5], m[4], m[2]));
        int third = polys.product(m[2], polys.cross(m[1], m[4], m[3], m[2]));
        return polys.sum(polys.sum(first, second, -1), third, 1);
      }
      if (most == 3) return k == 1 ? polys.cross(m[3], m[5], m[4], m[4]) : m[5];
      if (most == 2) return k == 0 ? polys.cross(m[0], m[3], m[1], m[1]) : m[3];
      return m[0];
    }

    /** For two cubics with two roots in common: b^2 - 4 a c of the square polynomial that has these. */
    int commonSquareTerm() {
      int ac = polys.product(matrix[5], matrix[2]);
      return polys.sum(polys.product(matrix[4], matrix[4]), polys.scale(ac, numbers.small(4)), -1);
    }

    /** The coefficient of the power t of a curve of degree d seen from the inner number up / low, times low to the d - t. */
    int taylor(int i, int d, int t, int up, int low) {
      Numbers n = numbers;
      int result = polys.make(-1);
      int mark = n.top;
      int factor = n.small(1), choose = 1;
      for (int j = t; j <= d; j++) {
        int weight = n.mul(factor, n.small(choose));
        for (int s = j; s < d; s++) weight = n.mul(weight, low);
        result = polys.sum(result, polys.scale(coefficient(i, j), weight), 1);
        factor = n.mul(factor, up);
        choose = choose * (j + 1) / (j + 1 - t);
      }
      return polys.keep(mark, result);
    }
  }

  /** The line over one number of the outer axis: where the curves cross it, in order, and what is true on it. */
  private static final class Line {
    private static final int CURVES = 5, ROOTS = 15;
    /** How a root is sought: whether it is above 0, then by powers of 2 upwards or downwards, then by halves. */
    private static final int START = 0, UPWARDS = 1, DOWNWARDS = 2, BY_HALVES = 3;
    private static final int UNKNOWN = -1;
    /** How many ways there are to choose t of j: at 4 j + t. */
    private static final int[] CHOOSE = {1, 0, 0, 0, 1, 1, 0, 0, 1, 2, 1, 0, 1, 3, 3, 1};
    private static final int MOST_EXACT_BITS = 52, MOST_SHIFT = 60;

    private final Curves curves;
    private final Spot spot;
    private final Statement statement;
    private final Polys polys;
    private final Numbers numbers;
    private int count;
    private final int[] curve = new int[CURVES];
    private final int[] degree = new int[CURVES];
    private final int[] lead = new int[CURVES];
    /** Whether a cubic has just one real root, so that its sign alone tells the side. */
    private final boolean[] single = new boolean[CURVES];
    /** Whether doubles can try first, the coefficients as doubles, and how far these may be off. */
    private final boolean[] quick = new boolean[CURVES];
    private final double[] value = new double[CURVES * 4];
    private final double[] error = new double[CURVES * 4];
    int roots;
    private final Root[] root = new Root[ROOTS];
    final int[] order = new int[ROOTS];
    /** For two roots whether their pieces may still overlap. */
    private final boolean[] close = new boolean[ROOTS * ROOTS];
    /** For two curves how many real roots they have in common, and how many pairs of roots are still close. */
    private final int[] shared = new int[CURVES * CURVES];
    private final int[] pairs = new int[CURVES * CURVES];

    Line(Curves curves, Spot spot, Statement statement) {
      this.curves = curves;
      this.spot = spot;
      this.statement = statement;
      polys = curves.polys;
      numbers = polys.numbers;
      for (int i = 0; i < ROOTS; i++) root[i] = new Root();
    }

    /** The truth of a part of the statement at the spot. */
    boolean truth(int owner) {
      for (int q = 0; q < statement.quantifiers; q++) {
        if (statement.parent[q] != owner) continue;
        int mark = numbers.top;
        clear();
        for (int i = 0; i < statement.comparisons; i++) {
          if (statement.holder[i] == q) load(i);
        }
        separate();
        arrange();
        statement.value[q] = truthAlong(q);
        numbers.top = mark;
      }
      for (int i = 0; i < statement.comparisons; i++) {
        if (statement.holder[i] == owner) statement.sign[i] = spot.signOf(curves.coefficient(i, 0));
      }
      return statement.truth(owner);
    }

    void clear() {
      count = 0;
      roots = 0;
      Arrays.fill(shared, UNKNOWN);
    }

    /** Takes a curve to the line: its degree there and its real roots, still without their places. */
    void load(int i) {
      if (count >= CURVES) return;
      int l = count++;
      int d = curves.degree[i], sign = 0;
      for (; d >= 0; d--) {
        sign = spot.signOf(curves.coefficient(i, d));
        if (sign != 0) break;
      }
      curve[l] = i;
      degree[l] = d;
      lead[l] = sign;
      single[l] = false;
      if (d > 0) measure(l);
      if (d == 1) addRoot(l, 1, 1);
      if (d == 2) {
        int turn = spot.signOf(curves.discriminant(i));
        if (turn == 0) addRoot(l, 1, 2);
        for (int rank = 1; rank <= 2 && turn > 0; rank++) addRoot(l, rank, 1);
      }
      if (d == 3) loadCubic(l, i);
    }

    private void measure(int l) {
      quick[l] = true;
      for (int j = 0; j <= degree[l] && quick[l]; j++) {
        quick[l] = spot.measure(curves.coefficient(curve[l], j));
        value[4 * l + j] = spot.value;
        error[4 * l + j] = spot.error;
      }
    }

    private void loadCubic(int l, int i) {
      int turn = spot.signOf(curves.discriminant(i));
      single[l] = turn < 0;
      if (turn < 0) addRoot(l, 1, 1);
      for (int rank = 1; rank <= 3 && turn > 0; rank++) addRoot(l, rank, 1);
      if (turn != 0) return;
      int middle = spot.signOf(curves.middleTerm(i)) * lead[l];
      if (middle == 0) {
        addRoot(l, 1, 3);
      } else {
        // the root that is twice there is above the other one just if the cubic goes on upwards from their mean
        addRoot(l, 1, middle > 0 ? 2 : 1);
        addRoot(l, 3, middle > 0 ? 1 : 2);
      }
    }

    private void addRoot(int l, int rank, int times) {
      if (roots >= ROOTS) return;
      Root r = root[roots++];
      r.curve = l;
      r.rank = rank;
      r.times = times;
      r.phase = START;
      r.reach = 0;
      r.inDoubt = false;
    }

    /** Seeks all roots till each two that are not the same lie in pieces apart. */
    void separate() {
      for (int r = 0; r < roots; r++) {
        for (int i = 0; i < ENDLESS && root[r].phase != BY_HALVES; i++) step(r);
      }
      for (int i = 0; i < close.length; i++) close[i] = true;
      for (int round = 0; round < ENDLESS; round++) {
        countPairs();
        for (int high = 1; high < count; high++) {
          for (int low = 0; low < high; low++) {
            int both = low * CURVES + high;
            if (pairs[both] > 0 && shared[both] == UNKNOWN) shared[both] = commonRoots(low, high);
          }
        }
        if (!findDoubts()) return;
        for (int r = 0; r < roots; r++) {
          if (root[r].inDoubt) step(r);
        }
      }
    }

    private void countPairs() {
      Arrays.fill(pairs, 0);
      for (int s = 1; s < roots; s++) {
        for (int r = 0; r < s; r++) {
          int both = r * ROOTS + s;
          close[both] = close[both] && compare(root[r], root[s]) == 0;
          if (close[both]) pairs[root[r].curve * CURVES + root[s].curve]++;
        }
      }
    }

    /** Roots that are close must be the same, if just so many pairs are close as are the same. */
    private boolean findDoubts() {
      boolean any = false;
      for (int r = 0; r < roots; r++) root[r].inDoubt = false;
      for (int s = 1; s < roots; s++) {
        for (int r = 0; r < s; r++) {
          int both = root[r].curve * CURVES + root[s].curve;
          if (!close[r * ROOTS + s]) continue;
          if (root[r].curve != root[s].curve && pairs[both] <= shared[both]) continue;
          any = true;
          if (root[r].k <= root[s].k) root[r].inDoubt = true;
          if (root[s].k <= root[r].k) root[s].inDoubt = true;
        }
      }
      return any;
    }

    /** The order of two pieces; 0, if one lies in the other. */
    private int compare(Root r, Root s) {
      Numbers n = numbers;
      int mark = n.top, k = Math.min(r.k, s.k);
      int result = n.compare(n.shift(n.bring(r), k - r.k), n.shift(n.bring(s), k - s.k));
      n.top = mark;
      return result;
    }

    /** How many different real roots two curves have in common on the line. */
    private int commonRoots(int low, int high) {
      int i = curve[low], j = curve[high], di = degree[low], dj = degree[high];
      int known = curves.meeting(i, j), least = Math.min(di, dj), mark = numbers.top;
      boolean whole = di == curves.degree[i] && dj == curves.degree[j];
      if (known != 0 && whole && !spot.isZero(known)) return 0;
      curves.bezout(i, di, j, dj);
      int k = 0;
      while (k < least && spot.isZero(curves.minor(Math.max(di, dj), k))) k++;
      int result = k;
      if (k == least) result = rootsOf(di <= dj ? low : high);
      else if (k == 2) result = 1 + spot.signOf(curves.commonSquareTerm());
      numbers.top = mark;
      return result;
    }

    private int rootsOf(int l) {
      int result = 0;
      for (int r = 0; r < roots; r++) result += root[r].curve == l ? 1 : 0;
      return result;
    }

    Root root(int g) {
      return g >= 0 && g < roots ? root[order[g]] : null;
    }

    /** Asks once on which side of some number a root lies, and goes on from there. */
    void step(int r) {
      if (r < 0 || r >= roots) return;
      Numbers n = numbers;
      Root here = root[r];
      int mark = n.top, k = here.phase == BY_HALVES ? here.k + 1 : 0;
      int c = probe(here);
      int up = k < 0 ? n.shift(c, -k) : c, low = n.shift(n.small(1), Math.max(k, 0));
      int l = here.curve, d = degree[l], before = lead[l], turns = 0;
      boolean tries = quick[l] && n.bits(up) <= MOST_EXACT_BITS && k <= MOST_SHIFT;
      double y = tries ? n.real(up) / (1L << Math.max(k, 0)) : 0;
      for (int t = single[l] ? 0 : d - 1; t >= 0; t--) {
        int sign = tries ? quickSign(l, t, y) : 0;
        if (sign == 0) sign = spot.signOf(curves.taylor(curve[l], d, t, up, low));
        if (sign * before < 0) turns++;
        if (sign != 0) before = sign;
      }
      // so many roots are above, as all are real or there is only one
      boolean above = turns >= here.rank;
      if (here.phase != BY_HALVES) reach(here, above);
      else n.lay(above ? c : n.sum(c, n.small(1), -1), k, here);
      n.top = mark;
    }

    /** The sign of the coefficient of the power t of a curve seen from y, if doubles can tell it; else 0. */
    private int quickSign(int l, int t, double y) {
      double v = 0, off = 0, size = y < 0 ? -y : y;
      for (int j = degree[l]; j >= t; j--) {
        double part = value[4 * l + j] * CHOOSE[4 * j + t], before = v * y;
        v = before + part;
        off = off * size + error[4 * l + j] * CHOOSE[4 * j + t]
            + ((before < 0 ? -before : before) + (part < 0 ? -part : part)) / Spot.CAUTION;
      }
      off += off / Spot.CAUTION;
      return v > off ? 1 : v < -off ? -1 : 0;
    }

    /** The number to ask about next. */
    private int probe(Root here) {
      Numbers n = numbers;
      if (here.phase == START) return n.small(0);
      if (here.phase == UPWARDS) return n.shift(n.small(1), here.reach);
      if (here.phase == DOWNWARDS) return n.shift(n.small(-1), here.reach);
      return n.sum(n.shift(n.bring(here), 1), n.small(1), 1);
    }

    /** A piece goes from above its lower number to its upper one, so that 0 is in the piece below it. */
    private void reach(Root here, boolean above) {
      int k = Math.min(0, 1 - here.reach);
      if (here.phase == START) {
        here.phase = above ? UPWARDS : DOWNWARDS;
      } else if (above == (here.phase == UPWARDS)) {
        here.reach++;
      } else {
        int first = here.reach == 0 ? 0 : 1;
        numbers.lay(numbers.small(here.phase == UPWARDS ? first : -1 - first), k, here);
        here.phase = BY_HALVES;
      }
    }

    /** Puts the roots in order; the same ones of several curves come one behind the other. */
    void arrange() {
      for (int i = 0; i < roots; i++) {
        int j = i;
        for (; j > 0 && compare(root[order[j - 1]], root[i]) > 0; j--) order[j] = order[j - 1];
        order[j] = i;
      }
    }

    /** Whether a root is the first of those that are the same. */
    boolean startsGroup(int g) {
      return g == 0 || compare(root[order[g - 1]], root[order[g]]) != 0;
    }

    private int groupEnd(int g) {
      int next = g + 1;
      while (next < roots && !startsGroup(next)) next++;
      return next;
    }

    /** Whether all curves are 0 at a group of roots. */
    boolean allVanish(int g) {
      int stop = groupEnd(g), zero = 0;
      for (int l = 0; l < count; l++) zero |= degree[l] < 0 ? 1 << l : 0;
      for (int i = g; i < stop; i++) zero |= 1 << root[order[i]].curve;
      return zero == (1 << count) - 1;
    }

    /** Goes along the line from below, cell by cell. */
    private boolean truthAlong(int q) {
      boolean some = statement.some[q];
      int[] sign = statement.sign;
      for (int l = 0; l < count; l++) sign[curve[l]] = degree[l] > 0 && degree[l] % 2 == 1 ? -lead[l] : lead[l];
      if (statement.truth(q) == some) return some;
      for (int g = 0; g < roots; g++) {
        if (!startsGroup(g)) continue;
        int stop = groupEnd(g), turned = 0;
        for (int i = g; i < stop; i++) {
          Root r = root[order[i]];
          if (r.times % 2 == 1) turned |= 1 << r.curve;
          lead[r.curve] = sign[curve[r.curve]];
          sign[curve[r.curve]] = 0;
        }
        if (statement.truth(q) == some) return some;
        for (int i = g; i < stop; i++) {
          int l = root[order[i]].curve;
          sign[curve[l]] = (turned >> l & 1) != 0 ? -lead[l] : lead[l];
        }
        if (statement.truth(q) == some) return some;
      }
      return !some;
    }
  }
}
