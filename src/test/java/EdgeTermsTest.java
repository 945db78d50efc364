/**
 * The sentences of the document's part 'Terms' that name an edge: the tape, tokens, the rules of texts, and each kind of fault.
 * In a text with a fault a | stands ahead of the fault's place; it is taken out before the text is read.
 */
public final class EdgeTermsTest {
  private static final Check CHECK = new Check();
  private static final int NO_TOKEN = 1, MISPLACED = 2, BOUND_ALREADY = 3, TOO_MANY = 4, BOUND_AND_FREE = 5, TOO_GREAT = 6;

  public static void main(String[] args) {
    tapeIsFull();
    tapeIsUsedUp();
    blanks();
    words();
    numbers();
    signs();
    longestSigns();
    statements();
    sidesAndBoths();
    ones();
    sumsAndProducts();
    reach();
    boundAndFreeVariables();
    placesOfFaults();
    noTokens();
    misplacedTokens();
    misplacedEnds();
    boundAlready();
    token121();
    comparison6();
    elevenOpen();
    openTillItEnds();
    leastOfOneToken();
    firstFromTheLeft();
    boundThatIsFree();
    tooGreatComesLast();
    tooGreatDifference();
    tooGreatPower();
    tooGreatSides();
    tooGreatBrackets();
    tooGreatProducts();
    tooGreatPowersOfAtoms();
    CHECK.finish();
  }

  private static void good(String text, int free) {
    CellDecide cells = new CellDecide();
    CHECK.due("read of " + text, Check.read(cells, text), free);
    CHECK.due("fault of " + text, cells.fault(), 0);
  }

  private static void bad(int kind, String marked) {
    CellDecide cells = new CellDecide();
    CHECK.due("read of " + marked, Check.read(cells, marked.replace("|", "")), -1000 - marked.indexOf('|'));
    CHECK.due("fault of " + marked, cells.fault(), kind);
    CHECK.due("decide after " + marked, cells.decide(), CellDecide.STATE);
  }

  private static void so(int want, String text) {
    CellDecide cells = new CellDecide();
    CHECK.due("read of " + text, Check.read(cells, text), 0);
    CHECK.due("decide of " + text, cells.decide(), want);
  }

  private static String times(int count, String part) {
    return part.repeat(count);
  }

  private static String inRound(int depth, String inside) {
    return times(depth, "(") + inside + times(depth, ")");
  }

  private static String inSquare(int depth, String inside) {
    return times(depth, "[") + inside + times(depth, "]");
  }

  private static void tapeIsFull() {
    CHECK.of("Terms", "The tape has at most 600 bytes");
    CellDecide cells = new CellDecide();
    for (int n = 20; n <= 600; n += 20) CHECK.due("feed", Check.feed(cells), n);
    CHECK.due("feed of a full tape", Check.feed(cells), CellDecide.NONE);
    CHECK.due("read of 600 blanks", cells.read(), -1600);
    good(times(596, " ") + "true", 0);
    good("true" + times(596, "\n"), 0);
    bad(MISPLACED, times(597, " ") + "x =|");
    bad(NO_TOKEN, "true" + times(595, " ") + "|?");
  }

  private static void tapeIsUsedUp() {
    CHECK.of("Terms", "what reads it uses it up");
    CellDecide cells = new CellDecide();
    CHECK.due("read", Check.read(cells, "x < 1"), 1);
    CHECK.due("end(1) after read", Check.end(cells, 1), 0);
    CHECK.due("read of nothing", cells.read(), -1000);
    CHECK.due("read with a fault", Check.read(cells, "x < 1 )"), -1006);
    CHECK.due("end(1) after a fault", Check.end(cells, 1), 0);
    CHECK.due("meet", Check.meet(cells, "x;y"), 1);
    CHECK.due("end(1) after meet", Check.end(cells, 1), 0);
    CHECK.due("meet of nothing", cells.meet(), -1000);
    CHECK.due("meet in many", Check.meet(cells, "x;x"), CellDecide.MANY);
    CHECK.due("end(1) after many", Check.end(cells, 1), 0);
    CHECK.due("meet with a fault", Check.meet(cells, "x;x)"), -1003);
    CHECK.due("end(1) after a fault of meet", Check.end(cells, 1), 0);
    Check.tape(cells, "y < 1");
    askAll(cells);
    CHECK.due("what does not read leaves the tape", Check.end(cells, 5), 1);
    CHECK.due("and its bytes", cells.read(), 2);
  }

  private static void askAll(CellDecide cells) {
    cells.fault();
    cells.decide();
    cells.holds(0, 1, 0, 1);
    cells.solve();
    cells.interval(0, 0);
    cells.members();
    cells.point(0, 0);
    cells.write(0, 0, 0);
    cells.writeLeast(0, 0);
    cells.writePoint(0, 0, 60);
    cells.writePointLeast(0, 0);
    cells.at(0);
  }

  private static void blanks() {
    CHECK.of("Terms", "TOKENS, between BLANKS (32, 10)");
    good("  \n\n  true  \n", 0);
    good("\n x\n<\n1 \n", 1);
    good("not(x<1)and(y<1)", 3);
    good("x<1and y<1or x=2", 3);
    for (int c = 0; c < 33; c++) {
      if (c != 32 && c != 10) bad(NO_TOKEN, "true|" + (char) c);
    }
    bad(NO_TOKEN, "|" + (char) 160 + "true");
    bad(NO_TOKEN, "|t rue");
    bad(MISPLACED, "1 |2<3");
    bad(MISPLACED, "x < |= 1");
    bad(NO_TOKEN, "x |! = 1");
    bad(MISPLACED, "true |= = true");
    bad(MISPLACED, "true |- > true");
  }

  private static void words() {
    CHECK.of("Terms", "WORDS (letters a .. z)");
    good("some x. all y. not true and false or x<y", 0);
    bad(NO_TOKEN, "|a");
    bad(NO_TOKEN, "|z");
    bad(NO_TOKEN, "|xx<1");
    bad(NO_TOKEN, "|yx<1");
    bad(NO_TOKEN, "|xz<1");
    bad(NO_TOKEN, "|xa<1");
    bad(NO_TOKEN, "|notx<1");
    bad(NO_TOKEN, "x<1|andy<1");
    bad(NO_TOKEN, "|True");
    bad(NO_TOKEN, "x|A<1");
    bad(NO_TOKEN, "x|`<1");
    bad(NO_TOKEN, "x|{<1");
    bad(NO_TOKEN, "x|_<1");
  }

  private static void numbers() {
    CHECK.of("Terms", "NUMBERS (one to three digits)");
    so(1, "0=00 and 0=000");
    so(1, "7=007");
    so(1, "10-9=1");
    so(1, "123=1*100+2*10+3");
    so(1, "999>998");
    bad(NO_TOKEN, "|0000=0");
    bad(NO_TOKEN, "0=|0000");
    bad(NO_TOKEN, "x<|1000");
    bad(NO_TOKEN, "x^|0003<1");
    bad(MISPLACED, "12|x<1");
    bad(NO_TOKEN, "1|/2<1");
    bad(NO_TOKEN, "1|:2<1");
  }

  private static void signs() {
    CHECK.of("Terms", "( ) [ ] . ; + - * ^ = < >");
    good("some x.(2*[x+1]-3^2=0)or x<1 or x>1", 0);
    for (int c = 33; c < 256; c++) {
      boolean letter = c >= 'a' && c <= 'z', digit = c >= '0' && c <= '9';
      if (letter || digit || c == '|') continue;
      bad("()[].;+-*^=<>".indexOf(c) >= 0 ? MISPLACED : NO_TOKEN, "true |" + (char) c);
    }
  }

  private static void longestSigns() {
    CHECK.of("Terms", "read as long as can be, <= >= != -> ==");
    so(1, "1<=1 and 1>=1 and 1!=2 and not 2<=1 and not 1>=2");
    so(1, "true->true");
    so(1, "false==false");
    so(1, "1>-1");
    so(0, "1<-1");
    so(1, "1!=-1->-1<=-1");
    for (String sign : new String[] {"<", "<=", "=", ">=", ">", "!="}) bad(MISPLACED, "x" + sign + "|");
    bad(MISPLACED, "true->|");
    bad(MISPLACED, "true==|");
    bad(MISPLACED, "x|==1");
    bad(MISPLACED, "x|->1");
    bad(MISPLACED, "x=|>1");
    bad(MISPLACED, "x=|<1");
    bad(MISPLACED, "x<|>1");
    bad(MISPLACED, "x-|->1");
    bad(MISPLACED, "x<=|=1");
    bad(MISPLACED, "x>=|=1");
    bad(MISPLACED, "x!=|=1");
    bad(MISPLACED, "x<=|>1");
    bad(NO_TOKEN, "x=|!1");
    bad(NO_TOKEN, "x|!<1");
    bad(NO_TOKEN, "x|!");
  }

  private static void statements() {
    CHECK.of("Terms", "statement: ( 'some' | 'all' ) variable '.' statement | side [ ( '->' | '==' ) side ]");
    good("some x. all y. true", 0);
    so(0, "true -> false");
    so(1, "false -> false");
    so(1, "false -> true");
    so(1, "true -> true");
    so(1, "true == true");
    so(1, "false == false");
    so(0, "false == true");
    so(0, "true == false");
    so(1, "(false -> true) -> true");
    bad(MISPLACED, "false -> true |-> true");
    bad(MISPLACED, "true == true |== true");
    bad(MISPLACED, "true == true |-> true");
    bad(MISPLACED, "true -> |some x. true");
    bad(MISPLACED, "some x |true");
    bad(MISPLACED, "some |. true");
    bad(MISPLACED, "some |some x. true");
  }

  private static void sidesAndBoths() {
    CHECK.of("Terms", "side: both { 'or' both }      both: one { 'and' one }");
    so(1, "true or false and false");
    so(1, "false and false or true");
    so(0, "(true or false) and false");
    so(0, "true or true -> false and true");
    so(1, "false or false or true");
    so(0, "true and true and false");
    bad(MISPLACED, "true |true");
    bad(MISPLACED, "true or |and true");
    bad(MISPLACED, "|or true");
    bad(MISPLACED, "true and |some x. true");
  }

  private static void ones() {
    CHECK.of("Terms", "one: 'not' one | '(' statement ')' | 'true' | 'false' | sum ( '<' | '<=' | '=' | '>=' | '>' | '!=' ) sum");
    so(1, "not true or true");
    so(0, "not false and false");
    so(1, "not not true");
    so(0, "not 1<2");
    so(1, "not (some x. x<x)");
    so(1, "((true)) and (false -> false)");
    bad(MISPLACED, "not |some x. true");
    bad(MISPLACED, "(|)");
    bad(MISPLACED, "(true|]");
    bad(MISPLACED, "1 < 2 |< 3");
    bad(MISPLACED, "true |< 1");
    bad(MISPLACED, "1 < |true");
    bad(MISPLACED, "(1|)<2");
    String[] relations = {"<", "<=", "=", ">=", ">", "!="};
    int[] below = {1, 1, 0, 0, 0, 1}, same = {0, 1, 1, 1, 0, 0}, above = {0, 0, 0, 1, 1, 1};
    for (int i = 0; i < relations.length; i++) {
      so(below[i], "1" + relations[i] + "2");
      so(same[i], "2" + relations[i] + "2");
      so(above[i], "3" + relations[i] + "2");
    }
  }

  private static void sumsAndProducts() {
    CHECK.of("Terms", "sum: [ '-' ] product { ( '+' | '-' ) product }      product: power { '*' power }      power: atom [ '^' NUMBER ]"
        + "      atom: NUMBER | variable | '[' sum ']'");
    so(1, "-2^2=-4");
    so(1, "[-2]^2=4");
    so(1, "-2*3+7=1");
    so(1, "10-4-3=3");
    so(1, "10-4+3=9");
    so(1, "2+3*4=14");
    so(1, "[2+3]*4=20");
    so(1, "2*3^2=18");
    so(1, "2^3*3=24");
    so(1, "5^0=1 and 5^1=5 and 5^2=25 and 5^3=125");
    so(1, "[[1]]=1");
    so(1, "2*[3-[1-[4-2]]]=8");
    bad(MISPLACED, "1-|-1=2");
    bad(MISPLACED, "1+|-1=0");
    bad(MISPLACED, "1*|-1<0");
    bad(MISPLACED, "-|-1=1");
    bad(MISPLACED, "|+1=1");
    bad(MISPLACED, "2^2|^2=16");
    bad(MISPLACED, "2^|x=1");
    bad(MISPLACED, "2^|[2]=4");
    bad(MISPLACED, "2^|-1=1");
    bad(MISPLACED, "2|[x]=1");
    bad(MISPLACED, "[x|<1]");
    bad(MISPLACED, "[|]=0");
    bad(MISPLACED, "[|(1)]=1");
    bad(MISPLACED, "[x|)=1");
  }

  private static void reach() {
    CHECK.of("Terms", "'some', 'all' reach as far as they can.");
    so(0, "all x. x<0 -> false");
    so(1, "(all x. x<0) -> false");
    so(1, "some x. x>0 == false");
    so(0, "(some x. x>0) == false");
    so(0, "some x. x<0 and x>0");
    so(1, "all x. x<0 or x>=0");
    so(1, "(all x. all y. x<y) -> false");
    so(0, "all x. all y. x<y -> false");
  }

  private static void boundAndFreeVariables() {
    CHECK.of("Terms", "A variable is BOUND within them; it is FREE where it comes and is not bound.");
    good("true", 0);
    good("x<1", 1);
    good("y<1", 2);
    good("x<y", 3);
    good("x<1 or y<1", 3);
    good("0*x=0", 1);
    good("y-y=0", 2);
    good("x^0=1", 1);
    good("some x. true", 0);
    good("some x. x<1", 0);
    good("some x. y<1", 2);
    good("some y. y<x", 1);
    good("some x. all y. x<y", 0);
    good("(some x. x<1) and (all x. x<1) and y<1", 2);
    good("(some x. some y. x<y) or (all y. some x. x<y)", 0);
  }

  private static void placesOfFaults() {
    CHECK.of("Terms", "PLACE (its token's first byte; the end: how many bytes there are)");
    bad(NO_TOKEN, "true  |truth");
    bad(NO_TOKEN, "x <=  |12345");
    bad(MISPLACED, "x <=  |<= 1");
    bad(MISPLACED, "true\n\n |false");
    bad(MISPLACED, "|");
    bad(MISPLACED, "\n|");
    bad(MISPLACED, "x <  |");
    bad(MISPLACED, "x <|");
    bad(MISPLACED, "not\n|");
    // a byte behind the end of the tape counts for nothing
    CellDecide cells = new CellDecide();
    Check.tape(cells, "x<=1 and");
    cells.end(2);
    CHECK.due("read of x<, cut from x<=1 and", cells.read(), -1002);
    CHECK.due("its fault", cells.fault(), MISPLACED);
  }

  private static void noTokens() {
    CHECK.of("Terms", "1 no token (a word that is none of those above, a NUMBER that is too long).");
    bad(NO_TOKEN, "some |z. true");
    bad(NO_TOKEN, "not |nota");
    for (String word : new String[] {"tru", "truee", "fals", "falsee", "som", "somes", "al", "alll", "an", "andd", "o", "orr", "no", "nott",
        "variable", "statement", "sum", "t", "e"}) {
      bad(NO_TOKEN, "|" + word);
      bad(NO_TOKEN, "true |" + word + " true");
    }
    bad(NO_TOKEN, "|" + times(600, "x"));
    bad(NO_TOKEN, "|" + times(600, "1"));
    bad(NO_TOKEN, "1<|1234");
  }

  /** In each place each token: whether it may come there is told by the rules. */
  private static void misplacedTokens() {
    CHECK.of("Terms", "2 a token that cannot come there.");
    String[] tokens = {"some", "all", "not", "and", "or", "true", "false", "x", "7", "(", ")", "[", "]", ".", ";", "+", "-", "*", "^",
        "=", "<", ">", "<=", ">=", "!=", "->", "=="};
    String atom = " x 7 [ ", sum = atom + "- ", one = sum + "not true false ( ", start = one + "some all ";
    String relation = " = < > <= >= != ", behindPower = " + - * ", behindAtom = behindPower + "^ ";
    String behindSide = " and or ", behindOne = behindSide + "-> == ";
    String[][] places = {
      {"", start}, {"(", start}, {"some x. ", start}, {"not ", one}, {"true and ", one}, {"true or ", one}, {"true -> ", one},
      {"true == ", one}, {"some ", " x "}, {"all ", " x "}, {"some x ", " . "}, {"x < ", sum}, {"[", sum}, {"- ", atom},
      {"x + ", atom}, {"x - ", atom}, {"x * ", atom}, {"x ^ ", " 7 "}, {"x ", behindAtom + relation}, {"7 ", behindAtom + relation},
      {"[x] ", behindAtom + relation}, {"x^2 ", behindPower + relation}, {"[x ", behindAtom + "] "}, {"[x^2 ", behindPower + "] "},
      {"x < x ", behindAtom + behindOne}, {"x < x^2 ", behindPower + behindOne}, {"(x < x ", behindAtom + behindOne + ") "},
      {"true ", behindOne}, {"(true ", behindOne + ") "}, {"(true) ", behindOne}, {"not true ", behindOne},
      {"true -> true ", behindSide}, {"true == true ", behindSide}, {"(true -> true ", behindSide + ") "}};
    for (String[] place : places) {
      for (String token : tokens) {
        // what comes next is no token, so a token that may come there leaves the fault to it
        boolean may = place[1].contains(" " + token + " ");
        bad(may ? NO_TOKEN : MISPLACED, may ? place[0] + token + " |?" : place[0] + "|" + token + " ?");
      }
    }
  }

  private static void misplacedEnds() {
    CHECK.of("Terms", "2 a token that cannot come there.", "the end");
    String[] texts = {"", "(", "some ", "some x ", "some x. ", "not ", "true and ", "true or ", "true -> ", "true == ", "x ", "x^ ", "x* ",
        "x+ ", "- ", "[ ", "[x ", "x< ", "x<- ", "x<[1 ", "(true ", "((true) ", "x^2"};
    for (String text : texts) bad(MISPLACED, text + "|");
  }

  private static void boundAlready() {
    CHECK.of("Terms", "3 a variable behind 'some', 'all' that is bound already.");
    bad(BOUND_ALREADY, "some x. some |x. true");
    bad(BOUND_ALREADY, "some x. all |x. true");
    bad(BOUND_ALREADY, "all y. all |y. true");
    bad(BOUND_ALREADY, "all y. some x. all |y. true");
    bad(BOUND_ALREADY, "some x. x<1 and not (some |x. true)");
    good("(some x. true) and (some x. true)", 0);
    good("some x. (all y. true) and (all y. true)", 0);
    good("(some x. all y. true) and (some y. all x. true)", 0);
  }

  private static void token121() {
    CHECK.of("Terms", "4 the 121st token;");
    good("not true" + times(59, " and true"), 0);
    bad(TOO_MANY, "true" + times(59, " and true") + " and |true");
    bad(TOO_MANY, "not true" + times(59, " and true") + " |and true");
    good("-1<1" + times(58, "+1"), 0);
    bad(TOO_MANY, "-1<1" + times(58, "+1") + "|+1");
    bad(TOO_MANY, "-\n1\n<\n1\n" + times(58, "+\n1\n") + "|+\n1\n");
    badCurves(TOO_MANY, "-x;1" + times(58, "+1") + "|+1");
  }

  private static void badCurves(int kind, String marked) {
    CellDecide cells = new CellDecide();
    CHECK.due("meet of " + marked, Check.meet(cells, marked.replace("|", "")), -1000 - marked.indexOf('|'));
    CHECK.due("fault of " + marked, cells.fault(), kind);
  }

  private static void comparison6() {
    CHECK.of("Terms", "the 6th comparison (at its sign);");
    good("1<2" + times(4, " and 1<2"), 0);
    good("(some x. x<1) or (some y. y<1) or 1<2 or 1<2 or 2<1", 0);
    for (String sign : new String[] {"<", "<=", "=", ">=", ">", "!="}) bad(TOO_MANY, "1<2" + times(4, " and 1<2") + " and x*1|" + sign + "2");
    bad(TOO_MANY, "some x. x<1" + times(4, " or x<1") + " or x^2 |< 1");
  }

  private static void elevenOpen() {
    CHECK.of("Terms", "one too many of ( [ 'not' 'some' 'all' open in one another (10; at it;");
    good(inRound(10, "true"), 0);
    bad(TOO_MANY, inRound(10, "|(true)"));
    good(inSquare(10, "x") + "<1", 1);
    bad(TOO_MANY, inSquare(10, "|[x]") + "<1");
    good("1<" + inSquare(10, "x"), 1);
    bad(TOO_MANY, "1<" + inSquare(10, "|[x]"));
    good(times(10, "not ") + "true", 0);
    bad(TOO_MANY, times(10, "not ") + "|not true");
    good(inRound(8, "some x. all y. true"), 0);
    bad(TOO_MANY, inRound(9, "some x. |all y. true"));
    bad(TOO_MANY, inRound(9, "some x. |not true"));
    bad(TOO_MANY, inRound(10, "|all y. true"));
    good("some x. all y. not (not (not (" + inSquare(2, "x") + "<1)))", 0);
    bad(TOO_MANY, "some x. all y. not (not (not (" + inSquare(2, "|[x]") + "<1)))");
    good("not (not (not (not (not (true)))))", 0);
    bad(TOO_MANY, "not (not (not (not (not (|(true))))))");
  }

  private static void openTillItEnds() {
    CHECK.of("Terms", "a 'not', 'some', 'all' till what it is of ends).");
    good("not true and " + times(10, "not ") + "true", 0);
    good("not 1<2 and " + inRound(10, "true"), 0);
    good("not (true) or " + inRound(10, "true"), 0);
    good("not true -> " + inRound(10, "true"), 0);
    good("not not true == " + inRound(10, "true"), 0);
    good("(some x. true) and " + inRound(10, "true"), 0);
    good("(all x. some y. true) and " + inRound(10, "true"), 0);
    good("[1]+[[2]]<3 and " + inRound(10, "true"), 0);
    good(inSquare(10, "1") + "+" + inSquare(10, "1") + "<" + inSquare(10, "1"), 0);
    good("some x. " + inRound(9, "true"), 0);
    bad(TOO_MANY, "some x. " + inRound(9, "|(true)"));
    bad(TOO_MANY, "some x. true and true or " + inRound(9, "|(true)"));
    bad(TOO_MANY, "all x. true -> " + inRound(9, "|(true)"));
    bad(TOO_MANY, "not " + inRound(9, "|(true)"));
    bad(TOO_MANY, "not " + inSquare(9, "|[1]") + "<1");
    bad(TOO_MANY, "not 1<" + inSquare(9, "|[1]"));
  }

  private static void leastOfOneToken() {
    CHECK.of("Terms", "Of one token the least;");
    String full = "not true" + times(59, " and true") + " |";
    bad(NO_TOKEN, full + "foo");
    bad(NO_TOKEN, full + "1000");
    bad(NO_TOKEN, full + "!");
    bad(MISPLACED, full + "true");
    bad(MISPLACED, full + ")");
    String bound = "some x. not " + times(57, "true and ") + "(some |";
    bad(BOUND_ALREADY, bound + "x. true)");
    bad(TOO_MANY, bound + "y. true)");
    bad(MISPLACED, bound + "1. true)");
    bad(MISPLACED, times(10, "(") + "x|(");
    bad(MISPLACED, times(10, "[") + "x|[");
    bad(MISPLACED, times(10, "not ") + "true |not true");
    bad(MISPLACED, times(10, "not ") + "|some x. true");
    bad(MISPLACED, "1<2" + times(4, " and 1<2") + " and x*1|->2");
  }

  private static void firstFromTheLeft() {
    CHECK.of("Terms", "the first from the left.");
    bad(NO_TOKEN, "|foo )");
    bad(MISPLACED, "|) foo");
    bad(BOUND_ALREADY, "some x. some |x foo");
    bad(NO_TOKEN, "some x. |foo. some x. true");
    bad(TOO_MANY, times(10, "(") + "|(foo");
    bad(NO_TOKEN, "|foo" + times(11, "("));
    bad(TOO_MANY, "1<2" + times(4, " and 1<2") + " and x*1|<)");
    bad(MISPLACED, "1<2" + times(4, " and 1<2") + " and x*1|)<2");
    bad(NO_TOKEN, "some x. x<1 and (|foo some x. true)");
    bad(TOO_MANY, times(10, "(") + "|(some x. some x. true");
  }

  private static void boundThatIsFree() {
    CHECK.of("Terms", "If there is none: 5 a variable is bound that is free in some place of the text, too "
        + "(at the first one behind a 'some', 'all' that is so)");
    bad(BOUND_AND_FREE, "(some |x. x<1) and x<1");
    bad(BOUND_AND_FREE, "(all |y. y<1) and y<1");
    bad(BOUND_AND_FREE, "x<1 and (some |x. true)");
    bad(BOUND_AND_FREE, "x<1 and (all |x. true) and (some x. true)");
    bad(BOUND_AND_FREE, "(some y. true) and (all |x. true) and x<1");
    bad(BOUND_AND_FREE, "(all |y. true) and (some x. true) and x<1 and y<1");
    bad(BOUND_AND_FREE, "(some |x. true) and (some y. x<y)");
    bad(BOUND_AND_FREE, "(some y. some |x. x<y) and x<1");
    bad(BOUND_AND_FREE, "0*x=0 and (some |x. true)");
    good("(some x. some y. x<y) and (some y. y<1)", 0);
    bad(NO_TOKEN, "x<1 and (some x. x<1) and |foo");
    bad(MISPLACED, "x<1 and (some x. x<1) |)");
    bad(BOUND_ALREADY, "x<1 and (some x. some |x. true)");
    bad(TOO_MANY, "x<1 and (some x. x<1) and " + inRound(10, "|(true)"));
  }

  private static void tooGreatComesLast() {
    CHECK.of("Terms", "if there is none of that: 6 TOO GREAT, at the sign of the first comparison that is");
    bad(TOO_GREAT, "x^4 |< 1");
    bad(TOO_GREAT, "x^4 |<= 1");
    bad(TOO_GREAT, "1 |!= x^4");
    bad(TOO_GREAT, "x<1 and 999+1|<x and 999+2<x");
    bad(TOO_GREAT, "(some x. x<1 or x^4|<1) and y^4<1");
    bad(TOO_GREAT, "1<2 and 1<2 and 1<2 and 1<2 and x^4|<2");
    bad(BOUND_AND_FREE, "x^4<1 and (some |x. true)");
    bad(BOUND_AND_FREE, "(some |x. x^4<1) and x<1");
    bad(NO_TOKEN, "x^4<1 and |foo");
    bad(MISPLACED, "x^4<1 |)");
    bad(BOUND_ALREADY, "some x. x^4<1 and (some |x. true)");
    bad(TOO_MANY, "x^4<1 and " + inRound(10, "|(true)"));
  }

  private static void tooGreatDifference() {
    CHECK.of("Terms", "what is left of it less what is right has a degree (of x and y together) above 3, or a coefficient above 999 in size");
    good("x^3<y^3", 3);
    good("x^2*y<x*y^2", 3);
    bad(TOO_GREAT, "x^2*y^2|<1");
    bad(TOO_GREAT, "1|<x*y^3");
    good("x<-999", 1);
    good("x<999", 1);
    good("998+1<x", 1);
    bad(TOO_GREAT, "999+1|<x");
    bad(TOO_GREAT, "x|<-999-1");
    bad(TOO_GREAT, "999|<-1");
    bad(TOO_GREAT, "-999|<1");
    good("998*x<-x", 1);
    bad(TOO_GREAT, "999*x|<-x");
    bad(TOO_GREAT, "-999*x|<x");
    good("x*y^2<-998*x*y^2", 3);
    bad(TOO_GREAT, "x*y^2|<-999*x*y^2");
    // left and right alone may be greater
    good("999+1<1", 0);
    good("-999-1<-1", 0);
    bad(TOO_GREAT, "999+1|<0");
    good("x*[500+500]<x", 1);
    so(1, "500*2=999+1");
    so(1, "999*999=999*999 and 999*999<999*999+999");
    bad(TOO_GREAT, "999*999|<999*999+999+1");
  }

  private static void tooGreatPower() {
    CHECK.of("Terms", "also where a power's NUMBER is above 3");
    so(1, "1^3=1");
    bad(TOO_GREAT, "1^4|=1");
    bad(TOO_GREAT, "0^4|=0");
    bad(TOO_GREAT, "1|=1^999");
    bad(TOO_GREAT, "0*1^4|=0");
    bad(TOO_GREAT, "[x-x]^4|=0");
    bad(TOO_GREAT, "0|=0*[1+[2-1^004]]");
    good("0*x^3=0", 1);
    so(1, "2^0=1 and 0^1=0 and 3^003=27");
  }

  private static void tooGreatSides() {
    CHECK.of("Terms", "or what is left or right, [..] has a degree above 3, or a coefficient above 1000000 in size.");
    so(1, "100*100*100=100*100*100");
    so(1, "-100*100*100=-100*100*100");
    bad(TOO_GREAT, "100*100*100+1|=100*100*100+1");
    bad(TOO_GREAT, "100*100*100+1|=100*100*100");
    bad(TOO_GREAT, "100*100*100|=100*100*100+1");
    bad(TOO_GREAT, "-100*100*100-1|=-100*100*100");
    bad(TOO_GREAT, "-100*100*100|=-100*100*100-1");
    // only the whole side counts, not what comes between
    so(1, "100*100*100+1-1=100*100*100");
    so(1, "100*100*100+100*100*100-100*100*100=100*100*100");
    so(1, "999*999+999*999-999*999-999*999=0");
    good("100*100*100*x+x-x=100*100*100*x", 1);
    bad(TOO_GREAT, "100*100*100*x*y+x*y|=100*100*100*x*y");
  }

  private static void tooGreatBrackets() {
    CHECK.of("Terms", "a [ ], [..] has a degree above 3, or a coefficient above 1000000 in size.");
    so(1, "0*[100*100*100]=0");
    so(1, "0*[-100*100*100]=0");
    bad(TOO_GREAT, "0*[100*100*100+1]|=0");
    bad(TOO_GREAT, "0*[-100*100*100-1]|=0");
    bad(TOO_GREAT, "0|=0*[1-[100*100*100+1]]");
    so(1, "0*[100*100*100+1-1]=0");
    bad(TOO_GREAT, "0*[100*100*100*x+x]|=0");
    good("0*[x^3+y^3]=0", 3);
    bad(TOO_GREAT, "0*[x^3*y]|=0");
    bad(TOO_GREAT, "[100*100*100+1]-[100*100*100+1]|=0");
  }

  private static void tooGreatProducts() {
    CHECK.of("Terms", "the product of the first powers of a product (two or more), [..] has a degree above 3, or a coefficient above 1000000 in size.");
    so(1, "100*100*100*0=0");
    bad(TOO_GREAT, "100*100*101*0|=0");
    bad(TOO_GREAT, "100*100*[-101]*0|=0");
    bad(TOO_GREAT, "101*[0-100*100]*0|=0");
    so(1, "0*100*100*101=0");
    so(1, "100*100*0*101=0");
    so(1, "100*0*100*101*999=0");
    bad(TOO_GREAT, "[100*100*100]*2|=0");
    bad(TOO_GREAT, "2*[100*100*100]*0|=0");
    bad(TOO_GREAT, "x^3*x*0|=0");
    good("x^3*0*x=0", 1);
    good("0*x^3*x=0", 1);
    bad(TOO_GREAT, "x*y*x*y*0|=0");
    good("x*y*x=0", 3);
    bad(TOO_GREAT, "[x+y]*[x^2+y]*[x-1]*0|=0");
    good("[x+y]*[x^2+y]*0*[x-1]=0", 3);
    // the middle coefficients are 999^2 + 2 * 999 = 999999 and 999^2 + 4 * 999 = 1001997
    good("[999*x+1]*[999*x+1]*[1+x]*0=0", 1);
    bad(TOO_GREAT, "[999*x+2]*[999*x+2]*[1+x]*0|=0");
    bad(TOO_GREAT, "[1+x]*[999*x+999]*999*0|=0");
  }

  private static void tooGreatPowersOfAtoms() {
    CHECK.of("Terms", "the second or third power of an atom (up to its NUMBER) has a degree above 3, or a coefficient above 1000000 in size.");
    so(1, "0*100^3=0");
    bad(TOO_GREAT, "0*101^3|=0");
    so(1, "0*101^2=0");
    so(1, "0*[999+1]^2=0");
    bad(TOO_GREAT, "0*[999+2]^2|=0");
    so(1, "0*[-999-1]^2=0");
    bad(TOO_GREAT, "0*[-999-2]^2|=0");
    bad(TOO_GREAT, "0*[-101]^3|=0");
    so(1, "0*[-100]^3=0");
    so(1, "0*[999+2]^1=0");
    so(1, "0*[100*100*100]^0=0");
    bad(TOO_GREAT, "0*[999+2]^3|=0");
    good("0*[x^2]^1=0", 1);
    good("0*[x^2]^0=0", 1);
    bad(TOO_GREAT, "0*[x^2]^2|=0");
    bad(TOO_GREAT, "0*[x*y]^2|=0");
    bad(TOO_GREAT, "0*[x*y-1]^3|=0");
    good("0*[x+y+1]^3=0", 3);
    good("0*[100*x]^3=0", 1);
    bad(TOO_GREAT, "0*[101*x]^3|=0");
    // 3 * 100^2 * 34 = 1020000
    good("0*[100*x+33]^3=0", 1);
    bad(TOO_GREAT, "0*[100*x+34]^3|=0");
    good("0*[x^2-x^2+x]^3=0", 1);
  }
}
