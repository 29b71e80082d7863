/** The boundary cases of term II: TOKENS, CLAUSES, PARTS, brackets, NUMBERS, FAULT, what is BROKEN. */
public final class LawsTest {
  private static final int NONE = Counted.NONE;
  private static final String[] PART_WORDS =
      {"state", "lit", "sum", "mix", "first", "last", "lamps", "news"};
  private static final String[] OTHER_WORDS = {"reads", "if", "or", "and", "not"};
  private static final String SIGNS_OF_SUMS = "+-*/%";

  public static void main(String[] args) {
    everyByte();
    everySign();
    longestRows();
    blanks();
    clauses();
    parts();
    brackets();
    numbers();
    wordsOutOfPlace();
    endsOutOfPlace();
    fullTape();
    whatIsAsked();
    whatIsAskedOfMost();
    cutTowardsNothing();
    fromTheLeft();
    beyondTheFarthest();
    dividedByNothing();
    whatCanStillMatter();
    whatHolds();
    whatIsTold();
    eachTextByItself();
    Due.close();
  }

  /** A LAW's FAULT (NONE: it has none), with all that tells of it. */
  private static void fault(int place, String text) {
    Counted x = new Counted();
    boolean taken = place == NONE;
    Due.is("law of '" + text + "'", Due.law(x, text), taken ? 0 : -6);
    Due.is("status of '" + text + "'", x.status(), taken ? 0 : -6);
    Due.is("fault of '" + text + "'", x.fault(), place);
    Due.is("laws behind '" + text + "'", x.count(2), taken ? 1 : 0);
    Due.is("tape behind '" + text + "'", x.count(6), 0);
    Due.is("refusals behind '" + text + "'", x.count(11), taken ? 0 : 1);
  }

  private static void faultAtEnd(String text) {
    fault(text.length(), text);
  }

  /** As what the STATES of a coast are READ by a LAW; the last told is that of all others. */
  private static void tells(int lamps, int news, String law, int... due) {
    Counted x = new Counted();
    x.lamps(lamps);
    x.news(news);
    Due.is("law of '" + law + "'", Due.law(x, law), 0);
    int learnt = x.learn(0);
    int many = 0;
    for (int state = 0; state < 1 << lamps; state++) {
      int told = due[Math.min(state, due.length - 1)];
      many += told == NONE ? 0 : 1;
      Due.is("of " + state + " by '" + law + "'", x.of(state), told);
    }
    Due.is("learn of '" + law + "'", learnt, many);
    Due.is("count of '" + law + "'", x.count(3), many);
  }

  /** What a SUM without words of STATES is, if that is one of eight NEWS. */
  private static void sum(int due, String sum) {
    tells(1, 8, "reads " + sum, due);
  }

  /** Whether a TEST is so (1), not so (0) or BROKEN (NONE). */
  private static void test(int due, String test) {
    tells(1, 2, "reads 1 if " + test, due == 1 ? 1 : NONE);
    tells(1, 2, "reads 1 if not (" + test + ")", due == 0 ? 1 : NONE);
  }

  private static boolean isLetter(int b) {
    return b >= 97 && b <= 122;
  }

  private static boolean isDigit(int b) {
    return b >= 48 && b <= 57;
  }

  private static boolean isOneOf(String signs, int b) {
    return signs.indexOf((char) b) >= 0;
  }

  /** Each byte there is: letters are a .. z alone, and blanks are 32 alone. */
  private static void everyByte() {
    for (int b = 0; b < 256; b++) {
      String sign = String.valueOf((char) b);
      fault(b == 32 ? NONE : 0, sign + "reads 1");
      fault(isDigit(b) || b == 32 ? NONE : isOneOf("+-*/%;", b) ? 8 : 7, "reads 1" + sign);
      fault(isLetter(b) ? 6 : b == 32 ? NONE : isOneOf("+-*/%;", b) ? 10 : 9, "reads lit" + sign);
      fault(isDigit(b) ? NONE : b == 32 || b == '[' ? 7 : 6, "reads " + sign);
    }
  }

  /** Each single byte behind a beginning: those that end a LAW there, those that go on. */
  private static void signsBehind(String beginning, String ends, String goOn) {
    for (int b = 0; b < 256; b++) {
      if (!isLetter(b) && !isDigit(b) && b != 32) {
        int length = beginning.length();
        int due = isOneOf(ends, b) ? NONE : isOneOf(goOn, b) ? length + 1 : length;
        fault(due, beginning + (char) b);
      }
    }
  }

  private static void everySign() {
    signsBehind("", "", "");
    signsBehind("reads [", "", "[");
    signsBehind("reads [1", "]", SIGNS_OF_SUMS);
    signsBehind("reads [1]", "", SIGNS_OF_SUMS + ";");
    signsBehind("reads 1+", "", "[");
    signsBehind("reads 1%", "", "[");
    signsBehind("reads 1 if ", "", "([");
    signsBehind("reads 1 if not ", "", "([");
    signsBehind("reads 1 if 1", "", SIGNS_OF_SUMS + "<>=");
    signsBehind("reads 1 if 1<", "", "[");
    signsBehind("reads 1 if 1=1", "", SIGNS_OF_SUMS + ";");
    signsBehind("reads 1 if 1=1 or ", "", "([");
    signsBehind("reads 1 if 1=1 and ", "", "([");
    signsBehind("reads 1 if (", "", "([");
    signsBehind("reads 1 if (1", "", SIGNS_OF_SUMS + "<>=");
    signsBehind("reads 1 if (1=1", ")", SIGNS_OF_SUMS);
    signsBehind("reads 1 if (1=1)", "", ";");
    signsBehind("reads 1 if [1]", "", SIGNS_OF_SUMS + "<>=");
    signsBehind("reads 1;", "", "");
  }

  private static void longestRows() {
    fault(NONE, "reads1if1=1or1=2and not1=3;reads2");
    fault(0, "readslit");
    fault(0, "rea ds 1");
    fault(0, "read 1");
    fault(0, "readss 1");
    fault(6, "reads litif 1=1");
    fault(6, "reads li t");
    fault(6, "reads statelit");
    fault(9, "reads 10 00");
    fault(8, "reads 1 ifnot 1=1");
    fault(11, "reads 1 if notlit=1");
    fault(15, "reads 1 if 1=1 orlit=1");
    fault(15, "reads 1 if 1=1 andnot 1=1");
    fault(7, "reads 1x");
    fault(7, "reads 1lit");
    fault(9, "reads lit1");
    fault(6, "reads LIT");
    fault(0, "READS 1");
    for (String word : PART_WORDS) {
      fault(NONE, "reads " + word);
      fault(6, "reads " + word.substring(1));
      fault(6, "reads " + word.substring(0, word.length() - 1));
      fault(6, "reads " + word + "a");
      fault(6, "reads a" + word);
    }
  }

  private static void blanks() {
    fault(0, "");
    for (int many : new int[] {1, 2, 19, 20, 21, 399, 400}) {
      faultAtEnd(Due.times(" ", many));
    }
    fault(NONE, "   reads   1   if   1   =   1   ;   reads   2   ");
    faultAtEnd("reads");
    faultAtEnd("reads ");
    faultAtEnd("reads               ");
    fault(9, "reads    x");
    faultAtEnd("   reads");
    faultAtEnd("   reads   ");
    fault(3, "   x");
  }

  private static void clauses() {
    String one = "reads 1 if 1=1;";
    int length = one.length();
    fault(NONE, Due.times(one, 11) + "reads 1");
    fault(NONE, Due.times(one, 11) + "reads 1 if 1=1");
    fault(12 * length, Due.times(one, 12) + "reads 1");
    fault(12 * length + 3, Due.times(one, 12) + "   reads 1");
    fault(12 * length, Due.times(one, 12) + "x");
    fault(12 * length, Due.times(one, 12) + ";");
    faultAtEnd(Due.times(one, 12));
    faultAtEnd(Due.times(one, 12) + "  ");
    fault(11 * length, Due.times(one, 11) + "x");
    faultAtEnd(Due.times(one, 11));
    fault(8, "reads 1;;reads 1");
    tells(1, 8, Due.times("reads 1;", 11) + "reads 7", 7);
    tells(1, 8, "reads 7;" + Due.times("reads 1/0;", 10) + "reads 1/0", 7);
  }

  private static void parts() {
    for (String part : new String[] {"1", "1000", "lit", "last", "state"}) {
      int each = part.length() + 1;
      fault(NONE, "reads " + Due.times(part + "+", 49) + part);
      fault(6 + 50 * each, "reads " + Due.times(part + "+", 50) + part);
    }
    faultAtEnd("reads " + Due.times("1+", 50));
    fault(106, "reads " + Due.times("1+", 50) + "1001");
    fault(106, "reads " + Due.times("1+", 50) + "x");
    fault(107, "reads " + Due.times("1+", 50) + "[1]");
    fault(NONE, "reads " + Due.times("[1]+", 49) + "[1]");
    fault(207, "reads " + Due.times("[1]+", 50) + "[1]");
    fault(NONE, "reads 1+1 if " + Due.times("1=1 or ", 23) + "1=1");
    fault(181, "reads 1 if " + Due.times("1=1 or ", 24) + "1=1");
    fault(NONE, Due.times("reads 1;", 11) + "reads " + Due.times("1+", 38) + "1");
    fault(172, Due.times("reads 1;", 11) + "reads " + Due.times("1+", 39) + "1");
    tells(1, 8, "reads " + Due.times("1-1+", 24) + "1*7", 7);
    tells(1, 8, "reads " + Due.times("[1-1]*", 24) + "1+7", 7);
  }

  private static void brackets() {
    for (int round = 0; round <= 8; round++) {
      String open = Due.times("(", round);
      String close = Due.times(")", round);
      String square = Due.times("[", 8 - round);
      String squares = Due.times("]", 8 - round);
      fault(NONE, "reads 1 if " + open + square + "1" + squares + "=1" + close);
      fault(NONE, "reads 1 if " + open + "1=" + square + "1" + squares + close);
      fault(19, "reads 1 if " + open + square + "[1]" + squares + "=1" + close);
      fault(21, "reads 1 if " + open + "1=" + square + "[1]" + squares + close);
      fault(19, "reads 1 if " + open + square + "[");
    }
    fault(19, "reads 1 if " + Due.times("(", 9) + "1=1" + Due.times(")", 9));
    fault(20, "reads 1 if (((((((( (1=1)))))))))");
    fault(19, "reads 1 if [[[[[[[[(1=1)");
    String eight = Due.times("[", 8) + "1" + Due.times("]", 8);
    fault(NONE, "reads " + eight);
    fault(NONE, "reads " + eight + "+" + eight + "*" + eight);
    fault(NONE, "reads " + eight + " if " + eight + "=" + eight + ";reads " + eight);
    fault(14, "reads [" + eight + "]");
    fault(6 + 18 + 8, "reads " + eight + "+[" + eight + "]");
    fault(NONE, "reads " + Due.times("[", 7) + "[1]+[1]" + Due.times("]", 7));
    fault(18, "reads " + Due.times("[", 7) + "[1]+[[1]]" + Due.times("]", 7));
    fault(NONE, "reads 1 if " + Due.times("not (", 8) + "1=1" + Due.times(")", 8));
    fault(55, "reads 1 if " + Due.times("not (", 9) + "1=1" + Due.times(")", 9));
    fault(NONE, "reads 1 if " + Due.times("(1=1) and ", 12) + "(1=1)");
    fault(NONE, "reads 1 if " + Due.times("(", 7) + "(1=1) or (1=2)" + Due.times(")", 7));
    faultAtEnd("reads " + Due.times("[", 8));
    tells(1, 8, "reads " + Due.times("[1+", 6) + "1" + Due.times("]", 6), 7);
    test(1, Due.times("not (", 4) + "1=1" + Due.times(")", 4));
  }

  private static void numbers() {
    fault(NONE, "reads 0");
    fault(NONE, "reads 999");
    fault(NONE, "reads 1000");
    for (String far : new String[] {"1001", "1002", "1010", "2000", "9999", "10000", "2147483647", "2147483648",
        "4294967295", "4294967296", "4294967297", "4294968296", "9223372036854775808", "18446744073709551616",
        "18446744073709551617"}) {
      fault(6, "reads " + far);
      fault(8, "reads 1+" + far + "+x");
      fault(13, "reads 1 if 1=" + far);
    }
    fault(6, "reads -1");
    fault(7, "reads 1.5");
    fault(7, "reads 1,000");
    sum(7, "1000-993");
    test(1, "999+1=1000");
    test(1, "1000>999");
  }

  private static void wordBehind(String beginning, String word, String goesOn) {
    if ((" " + goesOn + " ").contains(" " + word + " ")) {
      faultAtEnd(beginning + word);
    } else {
      fault(beginning.length(), beginning + word);
    }
  }

  private static void wordsOutOfPlace() {
    for (String word : OTHER_WORDS) {
      wordBehind("", word, "reads");
      wordBehind("reads ", word, "");
      wordBehind("reads 1 ", word, "if");
      wordBehind("reads 1+", word, "");
      wordBehind("reads [", word, "");
      wordBehind("reads [1 ", word, "");
      wordBehind("reads 1 if ", word, "not");
      wordBehind("reads 1 if not ", word, "not");
      wordBehind("reads 1 if 1 ", word, "");
      wordBehind("reads 1 if 1=", word, "");
      wordBehind("reads 1 if 1=1 ", word, "or and");
      wordBehind("reads 1 if 1=1 or ", word, "not");
      wordBehind("reads 1 if 1=1 and ", word, "not");
      wordBehind("reads 1 if (", word, "not");
      wordBehind("reads 1 if (1=1 ", word, "or and");
      wordBehind("reads 1 if (1=1) ", word, "or and");
      wordBehind("reads 1;", word, "reads");
    }
    for (String word : PART_WORDS) {
      fault(0, word);
      fault(8, "reads 1 " + word);
      fault(8, "reads 1;" + word);
      fault(15, "reads 1 if 1=1 " + word);
      faultAtEnd("reads 1 if " + word);
      fault(NONE, "reads 1+" + word);
      fault(NONE, "reads 1 if 1=" + word);
      fault(NONE, "reads [" + word + "]");
    }
  }

  /** A LAW that ends behind each of its TOKENS. */
  private static void endsOutOfPlace() {
    String[] tokens = ("reads [ lit + 1 ] * 2 if not ( state = 1 or lit < 2 ) and 3 > 1 ; reads 1").split(" ");
    String whole = " 6 8 19 23 26 ";
    StringBuilder text = new StringBuilder();
    for (int i = 1; i <= tokens.length; i++) {
      text.append(tokens[i - 1]);
      boolean ends = whole.contains(" " + i + " ");
      fault(ends ? NONE : text.length(), text.toString());
      text.append(' ');
      fault(ends ? NONE : text.length(), text.toString());
    }
    Due.is("tokens", tokens.length, 26);
  }

  private static void fullTape() {
    fault(NONE, "reads 1" + Due.times(" ", 393));
    fault(NONE, Due.times(" ", 393) + "reads 1");
    fault(399, "reads 1" + Due.times(" ", 392) + "x");
    faultAtEnd("reads 1" + Due.times(" ", 392) + "+");
    faultAtEnd(Due.times(" ", 395) + "reads");
    fault(6, "reads " + Due.times("1", 394));
    fault(0, Due.times("x", 400));
    fault(0, Due.times("(", 400));
    fault(14, "reads " + Due.times("[", 394));
    fault(19, "reads 1 if " + Due.times("(", 389));
    faultAtEnd("reads 1 if " + Due.times("not ", 97) + " ");
    faultAtEnd("reads 1 if " + Due.times("not ", 97) + "1");
    fault(NONE, "reads 1 if " + Due.times("not ", 96) + "lit=1");
    String most = Due.times("reads lit if lit<1;", 11) + "reads lit+lit if lit" + Due.times("+lit", 6) + ">lit";
    fault(NONE, most + Due.times("+lit", 7));
    fault(most.length() + 29, most + Due.times("+lit", 8));
  }

  private static void whatIsAsked() {
    tells(3, 8, "reads state", 0, 1, 2, 3, 4, 5, 6, 7);
    tells(3, 8, "reads lit", 0, 1, 1, 2, 1, 2, 2, 3);
    tells(3, 8, "reads sum", 0, 1, 2, 3, 3, 4, 5, 6);
    tells(3, 8, "reads mix", 0, 1, 2, 3, 3, 2, 1, 0);
    tells(3, 8, "reads first", NONE, 0, 1, 0, 2, 0, 1, 0);
    tells(3, 8, "reads last", NONE, 0, 1, 1, 2, 2, 2, 2);
    tells(3, 8, "reads first+1", 0, 1, 2, 1, 3, 1, 2, 1);
    tells(3, 8, "reads last+1", 0, 1, 2, 2, 3, 3, 3, 3);
    tells(3, 8, "reads 7 if first=0-1", 7, NONE);
    tells(3, 8, "reads 7 if last=0-1", 7, NONE);
    tells(3, 8, "reads lamps", 3);
    tells(3, 8, "reads news-1", 7);
    tells(1, 2, "reads state", 0, 1);
    tells(1, 2, "reads lamps", 1);
    tells(1, 2, "reads news", NONE);
    tells(1, 2, "reads news-1", 1);
    tells(1, 2, "reads last", NONE, 0);
    tells(1, 2, "reads mix", 0, 1);
  }

  private static void onlyOf(int state, String test) {
    Counted x = new Counted();
    x.lamps(8);
    x.news(8);
    Due.is("law", Due.law(x, "reads 7 if " + test), 0);
    Due.is("learn of " + test, x.learn(0), 1);
    Due.is("only of " + test, x.of(state), 7);
  }

  /** Eight LAMPS, eight NEWS. */
  private static void whatIsAskedOfMost() {
    onlyOf(255, "state=255");
    onlyOf(255, "state>254");
    onlyOf(0, "state<1");
    onlyOf(255, "lit=8");
    onlyOf(0, "lit=0");
    onlyOf(255, "sum=36");
    onlyOf(254, "sum=35");
    onlyOf(0, "sum=0");
    onlyOf(255, "mix=8 and lit=8");
    onlyOf(127, "mix=0 and lit=7 and first=0");
    onlyOf(128, "first=7");
    onlyOf(1, "last=0");
    onlyOf(0, "first=last and lit=0");
    onlyOf(255, "lamps=lit");
    onlyOf(255, "news=lit");
    onlyOf(129, "first=0 and last=7 and lit=2");
    onlyOf(192, "mix=15 and lit=2 and first=6");
  }

  private static void cutTowardsNothing() {
    sum(3, "7/2");
    sum(1, "[0-7]/2+4");
    sum(1, "7/[0-2]+4");
    sum(3, "[0-7]/[0-2]");
    sum(0, "1/2");
    sum(0, "[0-1]/2");
    sum(0, "1/[0-2]");
    sum(0, "0/5");
    sum(1, "[0-6]/2+4");
    sum(0, "999/1000");
    sum(1, "1000/1000");
    sum(1, "7%2");
    sum(3, "[0-7]%2+4");
    sum(1, "7%[0-2]");
    sum(3, "[0-7]%[0-2]+4");
    sum(0, "6%2");
    sum(0, "[0-6]%2");
    sum(0, "0%5");
    sum(2, "2%5");
    sum(NONE, "[0-2]%5");
    sum(3, "[0-2]%5+5");
  }

  private static void fromTheLeft() {
    sum(2, "7-2-3");
    sum(6, "7-[2-1]");
    sum(5, "100/5/4");
    sum(4, "100/5*2/10");
    sum(3, "17%10%4");
    sum(7, "2+3*2-1");
    sum(6, "10%4*3");
    sum(2, "8-3*2");
    sum(5, "1+[1+1]*2");
    test(1, "1=1 or 1=2 and 1=2");
    test(0, "(1=1 or 1=2) and 1=2");
    test(0, "not 1=1 and 1=2");
    test(1, "not 1=2 or 1=2");
    test(1, "1=2 and 1=1 or 1=1");
    test(0, "1<1");
    test(0, "1>1");
    test(1, "1=1");
    test(1, "1<2");
    test(0, "1>2");
    test(0, "1=2");
    test(0, "2<1");
    test(1, "2>1");
    test(1, "0-1<0");
    test(0, "0-1>0");
  }

  /** 1,000,000,000 either way is not BROKEN, one more is, be it the end or a step of a SUM. */
  private static void beyondTheFarthest() {
    test(1, "1000*1000*1000=1000*1000*1000");
    test(1, "1000*1000*1000+0>0");
    test(NONE, "1000*1000*1000+1>0");
    test(1, "1000*1000*1000-1+1>0");
    test(1, "0-1000*1000*1000<0");
    test(1, "0-1000*1000*1000-0<0");
    test(NONE, "0-1000*1000*1000-1<0");
    test(1, "[0-1000]*1000*1000<0");
    test(NONE, "[0-1000]*1000*1000*2<0");
    test(NONE, "[0-1000]*1000*1000-1<0");
    test(1, "1000*1000*1000*1>0");
    test(NONE, "1000*1000*1000*2>0");
    test(NONE, "1000*1000*1000*5>0");
    test(NONE, "1000*1000*1000*1000>0");
    test(NONE, "[1000*1000*1000]*[1000*1000*1000]>0");
    test(NONE, "[1000*1000*1000]*[0-1000*1000*1000]<0");
    test(NONE, "1<1000*1000*1000+1");
    test(1, "1000*1000*999+1000*1000=1000*1000*1000");
    test(NONE, "1000*1000*999+1000*1000+1>0");
    sum(NONE, "1000*1000*1000+1-1000*1000*1000");
    sum(1, "1000*1000*1000-1000*1000*1000+1");
    sum(NONE, "1000*1000*1000*7/1000/1000/1000");
    tells(1, 2, "reads 1;reads 1000*1000*1000", NONE);
    tells(1, 2, "reads 1;reads 1000*1000*1000+1", 1);
    tells(1, 2, "reads 1;reads 0-1000*1000*1000", NONE);
    tells(1, 2, "reads 1;reads 0-1000*1000*1000-1", 1);
    tells(1, 2, "reads 1;reads 1000*1000*1000+state", NONE, 1);
  }

  private static void dividedByNothing() {
    for (String sum : new String[] {"1/0", "1%0", "0/0", "0%0", "1/[1-1]", "1%[1-1]", "1+1/0", "[1/0]*0", "0*[1%0]"}) {
      tells(1, 2, "reads 1;reads " + sum, 1);
      tells(1, 2, "reads " + sum, NONE);
      test(NONE, sum + "=0");
      test(NONE, "0=" + sum);
      test(NONE, "not " + sum + "=0");
    }
    tells(2, 4, "reads 3;reads 2/lit", 3, 2, 2, 1);
    tells(2, 4, "reads 3;reads 2%lit", 3, 0, 0, 0);
    tells(2, 4, "reads 3;reads 1 if 2/lit=1", 3, 3, 3, 1);
  }

  /** "or", "and" ask what stands behind only if it can still matter. */
  private static void whatCanStillMatter() {
    test(1, "1=1 or 1/0=1");
    test(NONE, "1=2 or 1/0=1");
    test(NONE, "1/0=1 or 1=1");
    test(NONE, "1/0=1 or 1=2");
    test(0, "1=2 and 1/0=1");
    test(NONE, "1=1 and 1/0=1");
    test(NONE, "1/0=1 and 1=2");
    test(NONE, "1/0=1 and 1=1");
    test(1, "1=2 or 1=1 or 1/0=1");
    test(0, "1=1 and 1=2 and 1/0=1");
    test(1, "1=2 and 1/0=1 or 1=1");
    test(0, "1=2 and 1/0=1 or 1=2");
    test(NONE, "1=2 and 1/0=1 or 1/0=1");
    test(1, "1=1 or 1/0=1 and 1/0=2");
    test(NONE, "1=1 and 1/0=1 or 1=1");
    test(0, "1=2 and (1/0=1 or 1=1)");
    test(1, "1=1 or (1/0=1 and 1=2)");
    test(1, "(1=1 or 1/0=1) and 1=1");
    test(0, "(1=2 and 1/0=1) or 1=2");
    test(NONE, "not 1/0=1");
    test(NONE, "not (1/0=1 or 1=1)");
    test(1, "not (1=2 and 1/0=1)");
    test(1, "1=1 or not 1/0=1");
    test(0, "1=2 and not 1/0=1");
    tells(1, 2, "reads 1 if state=0 or 1/[state-1]=0", 1, NONE);
  }

  private static void whatHolds() {
    tells(1, 8, "reads 1;reads 2 if 1=2", 1);
    tells(1, 8, "reads 1;reads 2 if 1=1", 2);
    tells(1, 8, "reads 1 if 1=2", NONE);
    tells(1, 8, "reads 1;reads 2 if 1/0=1", 1);
    tells(1, 8, "reads 1;reads 2/0 if 1=1", 1);
    tells(1, 8, "reads 1;reads 2/0 if 1=2", 1);
    tells(1, 8, "reads 1;reads 2/0 if 1/0=0", 1);
    tells(1, 8, "reads 2/0", NONE);
    tells(1, 8, "reads 1;reads 2;reads 3 if 1=2", 2);
    tells(1, 8, "reads 1/0;reads 2;reads 3", 3);
    tells(1, 8, "reads 3;reads 1/0;reads 2 if 1=2", 3);
    tells(1, 8, "reads 1 if lit=0;reads 2 if lit=1", 1, 2);
    everyClauseHasItsOwn();
  }

  /** Twelve CLAUSES, of which each HOLDS for one STATE alone, forwards and backwards. */
  private static void everyClauseHasItsOwn() {
    StringBuilder up = new StringBuilder();
    StringBuilder down = new StringBuilder();
    for (int i = 0; i < 12; i++) {
      String end = i < 11 ? ";" : "";
      up.append("reads ").append(i % 8).append(" if state=").append(i).append(end);
      down.append("reads ").append(i % 8).append(" if state=").append(11 - i).append(end);
    }
    tells(4, 8, up.toString(), 0, 1, 2, 3, 4, 5, 6, 7, 0, 1, 2, 3, NONE);
    tells(4, 8, down.toString(), 3, 2, 1, 0, 7, 6, 5, 4, 3, 2, 1, 0, NONE);
  }

  /** The NEWS there are, and what is none of them, which hides what an earlier CLAUSE tells. */
  private static void whatIsTold() {
    for (int k = 2; k <= 8; k++) {
      tells(1, k, "reads 0", 0);
      tells(1, k, "reads " + (k - 1), k - 1);
      tells(1, k, "reads " + k, NONE);
      tells(1, k, "reads 1;reads " + k, NONE);
      tells(1, k, "reads 1;reads 0-1", NONE);
      tells(1, k, "reads 1;reads 0-2", NONE);
      tells(1, k, "reads 1;reads 256", NONE);
      tells(1, k, "reads 1;reads 1000", NONE);
      tells(1, k, "reads news-1", k - 1);
    }
  }

  /** What a TEXT may have at most is for each TEXT, whatever was read ahead of it. */
  private static void eachTextByItself() {
    String most = Due.times("reads 1 if lit<2;", 11) + "reads lit+1 if lit+1+1+1+1+1+1+1>" + Due.times("1+", 6) + "1";
    String deep = "reads " + Due.times("[", 8) + "2" + Due.times("]", 8);
    Counted x = new Counted();
    for (int i = 0; i < 6; i++) {
      Due.is("a fault in between", Due.law(x, deep + "+["), -6);
      Due.is("its place", x.fault(), deep.length() + 2);
      Due.is("law " + i, Due.law(x, i % 2 == 0 ? most : deep), i);
    }
    for (int i = 0; i < 6; i++) {
      boolean isMost = i % 2 == 0;
      Due.is("learn " + i, x.learn(i), isMost ? 7 : 8);
      Due.is("of 0 by " + i, x.of(0), isMost ? 1 : 2);
      Due.is("of 1 by " + i, x.of(1), 2);
      Due.is("of 3 by " + i, x.of(3), isMost ? 3 : 2);
      Due.is("of 7 by " + i, x.of(7), isMost ? NONE : 2);
    }
    Counted y = new Counted();
    y.image(0);
    for (int i = 0; i < 12; i++) {
      y.back(0);
      Due.is("a law again", Due.law(y, most), 0);
      Due.is("learnt again", y.learn(0), 7);
    }
  }
}
