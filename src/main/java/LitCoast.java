import java.util.Arrays;

/**
 * A coast of lamps that can be lit and never put out till dawn, over which news is sent again and
 * again by lighting some more.
 */
public final class LitCoast {
  /** There is none. */
  public static final int NONE = -1;

  private static final int BAD_NUMBER = -1;
  private static final int NO_SUCH = -2;
  private static final int NOT_NOW = -3;
  private static final int NO_ROOM = -5;
  private static final int BAD_TEXT = -6;

  private static final int MOST_LAMPS = 8;
  private static final int MOST_STATES = 256;
  private static final int MOST_NEWS = 8;
  private static final int MOST_OIL = 99;
  private static final int MOST_LAWS = 6;
  private static final int MOST_LOG = 24;
  private static final int MOST_WANTED = 16;
  private static final int MOST_TRAIL = 30;
  private static final int MOST_DRAWN = 24;
  private static final int MOST_TAPE = 400;
  private static final int MOST_ROW = 8;
  private static final int MOST_MISSED = 8;
  private static final int LAST_MANNER = 3;
  private static final int LAST_SEED = 1_000_000;
  private static final int IMAGES = 2;

  // MANNERS; 0, the fewest LAMPS, is what is left.
  private static final int LEAST_OIL = 1;
  private static final int MOST_LASTING = 2;
  private static final int GREATEST_MEAN = 3;

  private final Coast coast = new Coast();
  private final Coast[] images = new Coast[IMAGES];
  private final Tape tape = new Tape();
  private final LawReader lawReader = new LawReader(tape);
  private final Asker asker = new Asker();
  private final Keeper keeper = new Keeper(coast);
  private final RowCounter rowCounter = new RowCounter(keeper);
  private final Errand errand = new Errand(keeper);
  private final CodeSearch codeSearch = new CodeSearch();
  private final int[] trailStates = new int[MOST_TRAIL];
  private final int[] drawnStates = new int[MOST_DRAWN];
  private final int[] refusals = new int[1 - BAD_TEXT];
  private int trailCount;
  private int drawnCount;
  private int unsent = NONE;
  private int tornBytes;
  private int latest;

  public LitCoast() {
  }

  public int lamps(int n) {
    if (n < 1 || n > MOST_LAMPS) {
      return refuse(BAD_NUMBER);
    }
    int before = coast.lamps;
    coast.lamps = n;
    coast.broken = 0;
    Arrays.fill(coast.oil, 1);
    coast.forget();
    codeChanged();
    return accept(before);
  }

  public int news(int k) {
    if (k < 2 || k > MOST_NEWS) {
      return refuse(BAD_NUMBER);
    }
    int before = coast.news;
    coast.news = k;
    coast.forget();
    codeChanged();
    return accept(before);
  }

  public int oil(int lamp, int oil) {
    if (!coast.isLamp(lamp) || oil < 0 || oil > MOST_OIL) {
      return refuse(BAD_NUMBER);
    }
    int before = coast.oil[lamp];
    coast.oil[lamp] = oil;
    keeper.oilFresh = false;
    errand.fresh = false;
    return accept(before);
  }

  public int broken(int lamp, int is) {
    if (!coast.isLamp(lamp) || is < 0 || is > 1) {
      return refuse(BAD_NUMBER);
    }
    int before = (coast.broken >> lamp) & 1;
    coast.broken = (coast.broken & ~(1 << lamp)) | (is << lamp);
    codeChanged();
    return accept(before);
  }

  public int read(int state, int news) {
    if (!coast.isState(state) || news != NONE && !coast.isNews(news)) {
      return refuse(BAD_NUMBER);
    }
    int before = coast.code[state];
    coast.code[state] = news;
    codeChanged();
    return accept(before);
  }

  public int of(int state) {
    return coast.isState(state) ? coast.code[state] : NONE;
  }

  public int feed(int a, int b, int c, int d, int e) {
    if (!tape.hasRoom()) {
      return NONE;
    }
    tape.put(a);
    tape.put(b);
    tape.put(c);
    tape.put(d);
    tape.put(e);
    return tape.length;
  }

  public int end(int n) {
    if (n < 0 || n > tape.length) {
      return NONE;
    }
    tape.length = n;
    return n;
  }

  public int row() {
    if (tape.length == 0) {
      return refuse(BAD_TEXT);
    }
    int full = coast.full();
    for (int state = 0; state <= full; state++) {
      int told = tape.byteAt(state);
      coast.code[state] = coast.isNews(told) ? told : NONE;
    }
    tornBytes = Math.max(0, tape.length - full - 1);
    tape.length = 0;
    codeChanged();
    return accept(coast.readCount());
  }

  public int torn() {
    return tornBytes;
  }

  public int law() {
    if (coast.lawCount >= MOST_LAWS) {
      tape.length = 0;
      return refuse(NO_ROOM);
    }
    Law understood = lawReader.understand();
    tape.length = 0;
    if (understood == null) {
      return refuse(BAD_TEXT);
    }
    int number = coast.lawCount;
    coast.laws[number] = understood;
    coast.lawCount = number + 1;
    return accept(number);
  }

  public int fault() {
    return lawReader.faultPlace;
  }

  public int learn(int law) {
    if (law < 0 || law >= coast.lawCount) {
      return refuse(NO_SUCH);
    }
    Law told = coast.laws[law];
    if (told == null) {
      return refuse(NO_SUCH);
    }
    int full = coast.full();
    for (int state = 0; state <= full; state++) {
      coast.code[state] = asker.ask(told, coast, state);
    }
    codeChanged();
    return accept(coast.readCount());
  }

  public int next(int state, int news, int manner) {
    if (!coast.isState(state) || !coast.isNews(news) || !isManner(manner)) {
      return NONE;
    }
    keeper.prepare(manner);
    return keeper.choose(state, news, manner);
  }

  public int ways(int state, int news) {
    if (!coast.isState(state) || !coast.isNews(news)) {
      return NONE;
    }
    return coast.countWays(state, news);
  }

  public int lasts(int state) {
    return coast.isState(state) ? keeper.lastingOf(state) : NONE;
  }

  public long mean(int state, int what) {
    if (!coast.isState(state) || what < 0 || what > 1) {
      return NONE;
    }
    return keeper.meanPart(state, what == 0);
  }

  public int reached(int state) {
    if (state == NONE) {
      return coast.countReached();
    }
    if (!coast.isState(state)) {
      return NONE;
    }
    return coast.isReached(state) ? 1 : 0;
  }

  public int failing(int i) {
    if (i < NONE) {
      return NONE;
    }
    keeper.prepare(MOST_LASTING);
    int length = keeper.findFailing();
    if (i == NONE) {
      return length;
    }
    return i < length ? keeper.failingNews[i] : NONE;
  }

  public int hurts(int lamp) {
    return coast.isLamp(lamp) ? keeper.lastingWithout(lamp) : NONE;
  }

  public int codes(int n, int k, int t) {
    return CodeSearch.isSearched(n, k, t) ? codeSearch.countCodes(n, k, t) : NONE;
  }

  public int make(int n, int k, int t) {
    if (!CodeSearch.isSearched(n, k, t)) {
      return refuse(BAD_NUMBER);
    }
    if (n != coast.lamps || k != coast.news || codeSearch.countCodes(n, k, t) == 0) {
      return refuse(NOT_NOW);
    }
    codeSearch.copyFirst(n, k, t, coast.code);
    codeChanged();
    return accept(0);
  }

  public int send(int news, int manner) {
    if (!coast.isNews(news) || !isManner(manner)) {
      return refuse(BAD_NUMBER);
    }
    keeper.prepare(manner);
    int then = keeper.choose(coast.state, news, manner);
    if (then == NONE) {
      return refuse(NOT_NOW);
    }
    if (coast.logCount >= MOST_LOG) {
      return refuse(NO_ROOM);
    }
    int more = Integer.bitCount(then ^ coast.state);
    coast.log[coast.logCount] = then;
    coast.logCount++;
    coast.state = then;
    return accept(more);
  }

  public int dawn() {
    int lit = Integer.bitCount(coast.state);
    coast.state = 0;
    coast.logCount = 0;
    return lit;
  }

  public int log(int i) {
    if (i == NONE) {
      return coast.state;
    }
    return i >= 0 && i < coast.logCount ? coast.log[i] : NONE;
  }

  public int burnt() {
    return keeper.oilOf(coast.state);
  }

  public int trail() {
    if (tape.length == 0) {
      return refuse(BAD_TEXT);
    }
    trailCount = Math.min(tape.length, MOST_TRAIL);
    for (int i = 0; i < trailCount; i++) {
      trailStates[i] = tape.byteAt(i);
    }
    tape.length = 0;
    return accept(trailCount);
  }

  public int judge(int manner) {
    if (!isManner(manner)) {
      return NONE;
    }
    keeper.prepare(manner);
    int before = 0;
    for (int i = 0; i < trailCount; i++) {
      int then = trailStates[i];
      if (!keeper.wouldLight(before, then, manner)) {
        return i;
      }
      before = then;
    }
    return NONE;
  }

  public long rows(int t, int state, int manner) {
    if (!isRowTo(t, state, manner)) {
      return NONE;
    }
    return rowCounter.countRows(t, state, manner, NONE, NONE);
  }

  public long could(int t, int state, int manner, int j, int news) {
    if (!isRowTo(t, state, manner) || j < 0 || j >= t || !coast.isNews(news)) {
      return NONE;
    }
    return rowCounter.countRows(t, state, manner, j, news);
  }

  public int maybe(int state, int missed) {
    if (!coast.isState(state) || missed < 0 || missed > MOST_MISSED) {
      return NONE;
    }
    int bits = 0;
    int full = coast.full();
    for (int real = state; real <= full; real = (real + 1) | state) {
      if (Integer.bitCount(real ^ state) <= missed) {
        bits |= coast.newsBit(real);
      }
    }
    return bits;
  }

  public int safe() {
    return keeper.findSafe();
  }

  public int spy(int lit) {
    if (lit < 0 || lit > coast.lamps) {
      return NONE;
    }
    int bits = 0;
    int full = coast.full();
    for (int state = 0; state <= full; state++) {
      if (Integer.bitCount(state) == lit) {
        bits |= coast.newsBit(state);
      }
    }
    return bits;
  }

  public int want(int news) {
    if (!coast.isNews(news)) {
      return refuse(BAD_NUMBER);
    }
    if (coast.wantedCount >= MOST_WANTED) {
      return refuse(NO_ROOM);
    }
    coast.wanted[coast.wantedCount] = news;
    coast.wantedCount++;
    errand.fresh = false;
    return accept(coast.wantedCount);
  }

  public int unwant() {
    int before = coast.wantedCount;
    coast.wantedCount = 0;
    errand.fresh = false;
    return before;
  }

  public int cheap(int what) {
    if (what < 0 || what > 1) {
      return NONE;
    }
    errand.solve();
    return what == 0 ? errand.least : errand.manyWays;
  }

  public int plan(int i) {
    if (i < 0 || i >= coast.wantedCount) {
      return NONE;
    }
    errand.solve();
    return errand.least == NONE ? NONE : errand.states[i];
  }

  public int night(int seed, int many, int manner) {
    if (seed < 0 || seed > LAST_SEED || many < 0 || many > MOST_DRAWN || !isManner(manner)) {
      return refuse(BAD_NUMBER);
    }
    drawNight(seed, many, manner);
    return accept(drawnCount);
  }

  public int drawn(int i) {
    if (i == NONE) {
      return unsent;
    }
    return i >= 0 && i < drawnCount ? drawnStates[i] : NONE;
  }

  public int image(int k) {
    if (k < 0 || k >= IMAGES) {
      return refuse(BAD_NUMBER);
    }
    Coast kept = images[k];
    if (kept == null) {
      kept = new Coast();
      images[k] = kept;
    }
    kept.copyFrom(coast);
    return accept(0);
  }

  public int back(int k) {
    if (k < 0 || k >= IMAGES) {
      return refuse(BAD_NUMBER);
    }
    Coast kept = images[k];
    if (kept == null) {
      return refuse(NO_SUCH);
    }
    coast.copyFrom(kept);
    codeChanged();
    return accept(0);
  }

  public int count(int what) {
    switch (what) {
      case 0: return coast.lamps;
      case 1: return coast.news;
      case 2: return coast.lawCount;
      case 3: return coast.readCount();
      case 4: return coast.logCount;
      case 5: return coast.wantedCount;
      case 6: return tape.length;
      case 7: return refusals[-BAD_NUMBER];
      case 8: return refusals[-NO_SUCH];
      case 9: return refusals[-NOT_NOW];
      case 10: return refusals[-NO_ROOM];
      case 11: return refusals[-BAD_TEXT];
      case 12: return trailCount;
      default: return NONE;
    }
  }

  public int status() {
    return latest;
  }

  private int refuse(int by) {
    latest = by;
    if (by < 0 && -by < refusals.length) {
      refusals[-by]++;
    }
    return by;
  }

  private int accept(int answer) {
    latest = 0;
    return answer;
  }

  private void codeChanged() {
    keeper.forgetTables();
    errand.fresh = false;
  }

  private static boolean isManner(int manner) {
    return manner >= 0 && manner <= LAST_MANNER;
  }

  private boolean isRowTo(int t, int state, int manner) {
    return t >= 0 && t <= MOST_ROW && coast.isState(state) && isManner(manner);
  }

  private void drawNight(int seed, int many, int manner) {
    keeper.prepare(manner);
    long s = seed;
    int state = 0;
    drawnCount = 0;
    unsent = NONE;
    for (int i = 0; i < many && unsent == NONE; i++) {
      s = (s * 1103 + 12345) % 1_000_003;
      int told = (int) (s % Math.max(1, coast.news));
      int then = keeper.choose(state, told, manner);
      if (then == NONE) {
        unsent = told;
      } else {
        drawnStates[i] = then;
        drawnCount = i + 1;
        state = then;
      }
    }
  }

  /** All that an IMAGE keeps. */
  private static final class Coast {
    final int[] oil = new int[MOST_LAMPS];
    final int[] code = new int[MOST_STATES];
    final Law[] laws = new Law[MOST_LAWS];
    final int[] log = new int[MOST_LOG];
    final int[] wanted = new int[MOST_WANTED];
    int lamps = 3;
    int news = 4;
    int broken;
    int state;
    int lawCount;
    int logCount;
    int wantedCount;

    Coast() {
      Arrays.fill(oil, 1);
      Arrays.fill(code, NONE);
    }

    int full() {
      return (1 << lamps) - 1;
    }

    boolean isLamp(int lamp) {
      return lamp >= 0 && lamp < lamps;
    }

    boolean isState(int number) {
      return number >= 0 && number <= full();
    }

    boolean isNews(int number) {
      return number >= 0 && number < news;
    }

    boolean isReached(int number) {
      return number == 0 || code[number] != NONE && (number & broken) == 0;
    }

    /** Whether all that is lit in one STATE and not in the other can be lit. */
    boolean canLight(int from, int to) {
      return ((to ^ from) & broken) == 0;
    }

    /** The NEWS of a REACHED STATE as a bit; none of a STATE that is not READ or not REACHED. */
    int newsBit(int number) {
      return code[number] != NONE && isReached(number) ? 1 << code[number] : 0;
    }

    int readCount() {
      int many = 0;
      int full = full();
      for (int number = 0; number <= full; number++) {
        many += code[number] == NONE ? 0 : 1;
      }
      return many;
    }

    int countReached() {
      int many = 0;
      int full = full();
      for (int number = 0; number <= full; number++) {
        many += isReached(number) ? 1 : 0;
      }
      return many;
    }

    int countWays(int from, int told) {
      int many = 0;
      int full = full();
      for (int to = from; to <= full; to = (to + 1) | from) {
        many += code[to] == told && canLight(from, to) ? 1 : 0;
      }
      return many;
    }

    void forget() {
      Arrays.fill(code, NONE);
      state = 0;
      logCount = 0;
      wantedCount = 0;
    }

    void copyFrom(Coast other) {
      System.arraycopy(other.oil, 0, oil, 0, MOST_LAMPS);
      System.arraycopy(other.code, 0, code, 0, MOST_STATES);
      System.arraycopy(other.log, 0, log, 0, MOST_LOG);
      System.arraycopy(other.wanted, 0, wanted, 0, MOST_WANTED);
      for (int i = 0; i < MOST_LAWS; i++) {
        laws[i] = other.laws[i];
      }
      lamps = other.lamps;
      news = other.news;
      broken = other.broken;
      state = other.state;
      lawCount = other.lawCount;
      logCount = other.logCount;
      wantedCount = other.wantedCount;
    }
  }

  /** The bytes that were fed and not yet taken. */
  private static final class Tape {
    private static final int FED_AT_ONCE = 20;

    final int[] bytes = new int[MOST_TAPE];
    int length;

    boolean hasRoom() {
      return length <= MOST_TAPE - FED_AT_ONCE;
    }

    void put(int four) {
      for (int shift = 24; shift >= 0 && length < MOST_TAPE; shift -= 8) {
        bytes[length] = (four >>> shift) & 255;
        length++;
      }
    }

    int byteAt(int place) {
      return place >= 0 && place < length ? bytes[place] : NONE;
    }

    boolean spells(String word, int from, int to) {
      if (from < 0 || to > length || word.length() != to - from) {
        return false;
      }
      for (int i = 0; i < word.length(); i++) {
        if (bytes[from + i] != word.charAt(i)) {
          return false;
        }
      }
      return true;
    }
  }

  /**
   * A LAW that was understood: each CLAUSE is its SUM and its TEST, one behind the other, as steps
   * on a stack; marks has where each of them begins, and the end.
   */
  private static final class Law {
    static final int STATE = -1;
    static final int LIT = -2;
    static final int SUM = -3;
    static final int MIX = -4;
    static final int FIRST = -5;
    static final int LAST = -6;
    static final int LAMPS = -7;
    static final int NEWS = -8;
    static final int WORDS = 8;
    static final int ADD = -11;
    static final int TAKE = -12;
    static final int TIMES = -13;
    static final int OVER = -14;
    static final int LEFT = -15;
    static final int LESS = -16;
    static final int MORE = -17;
    static final int SAME = -18;
    static final int FLIP = -19;
    static final int OR = -20;
    static final int AND = -21;

    final int[] steps;
    final int[] marks;
    final int clauses;

    Law(int[] steps, int[] marks, int clauses) {
      this.steps = steps;
      this.marks = marks;
      this.clauses = clauses;
    }
  }

  /** Reads the TEXT of a LAW from the TAPE, or finds its FAULT. */
  private static final class LawReader {
    private static final int MOST_CLAUSES = 12;
    private static final int MOST_PARTS = 50;
    private static final int MOST_BRACKETS = 8;
    private static final int MOST_NUMBER = 1000;
    private static final int MOST_STEPS = MOST_TAPE;

    // Kinds of TOKENS: 0 .. 255 a single byte, below 0 a word that is a PART, from ZERO on NUMBERS.
    private static final int END = 256;
    private static final int OTHER_WORD = 257;
    private static final int READS = 258;
    private static final int IF = 259;
    private static final int OR = 260;
    private static final int AND = 261;
    private static final int NOT = 262;
    private static final int ZERO = 300;

    int faultPlace = NONE;
    private final Tape tape;
    private final int[] kinds = new int[MOST_TAPE + 1];
    private final int[] places = new int[MOST_TAPE + 1];
    private final int[] steps = new int[MOST_STEPS];
    private final int[] marks = new int[2 * MOST_CLAUSES + 1];
    private int tokenCount;
    private int token;
    private int kind;
    private int stepCount;
    private int partCount;
    private int clauseCount;

    LawReader(Tape tape) {
      this.tape = tape;
    }

    /** The LAW on the TAPE; null, if there is a FAULT. */
    Law understand() {
      findTokens();
      token = 0;
      kind = kinds[0];
      stepCount = 0;
      partCount = 0;
      clauseCount = 0;
      faultPlace = NONE;
      if (!takeClauses()) {
        return null;
      }
      return new Law(Arrays.copyOf(steps, stepCount), Arrays.copyOf(marks, 2 * clauseCount + 1),
          clauseCount);
    }

    private boolean takeClauses() {
      for (int i = 0; i < MOST_CLAUSES; i++) {
        if (!takeClause()) {
          return false;
        }
        if (kind == END) {
          return true;
        }
        if (kind != ';') {
          return fail();
        }
        advance();
      }
      return fail();
    }

    private boolean takeClause() {
      if (kind != READS || 2 * clauseCount + 2 >= marks.length) {
        return fail();
      }
      advance();
      marks[2 * clauseCount] = stepCount;
      if (!takeSum(0)) {
        return false;
      }
      marks[2 * clauseCount + 1] = stepCount;
      if (kind == IF) {
        advance();
        if (!takeTest(0)) {
          return false;
        }
      }
      clauseCount++;
      marks[2 * clauseCount] = stepCount;
      return true;
    }

    private boolean takeTest(int depth) {
      if (!takeBoth(depth)) {
        return false;
      }
      for (int i = 0; i < MOST_TAPE && kind == OR; i++) {
        advance();
        int hole = openSkip(Law.OR);
        if (!takeBoth(depth)) {
          return false;
        }
        closeSkip(hole);
      }
      return true;
    }

    private boolean takeBoth(int depth) {
      if (!takePlain(depth)) {
        return false;
      }
      for (int i = 0; i < MOST_TAPE && kind == AND; i++) {
        advance();
        int hole = openSkip(Law.AND);
        if (!takePlain(depth)) {
          return false;
        }
        closeSkip(hole);
      }
      return true;
    }

    private boolean takePlain(int depth) {
      boolean flipped = false;
      for (int i = 0; i < MOST_TAPE && kind == NOT; i++) {
        advance();
        flipped = !flipped;
      }
      boolean taken = kind == '(' ? takeBracketed(depth) : takeComparison(depth);
      if (taken && flipped) {
        step(Law.FLIP);
      }
      return taken;
    }

    private boolean takeBracketed(int depth) {
      if (depth >= MOST_BRACKETS) {
        return fail();
      }
      advance();
      return takeTest(depth + 1) && takeSign(')');
    }

    private boolean takeComparison(int depth) {
      if (!takeSum(depth)) {
        return false;
      }
      if (kind != '<' && kind != '>' && kind != '=') {
        return fail();
      }
      int sign = kind;
      advance();
      if (!takeSum(depth)) {
        return false;
      }
      step(stepOf(sign));
      return true;
    }

    private boolean takeSum(int depth) {
      if (!takeTerm(depth)) {
        return false;
      }
      for (int i = 0; i < MOST_TAPE && (kind == '+' || kind == '-'); i++) {
        int sign = kind;
        advance();
        if (!takeTerm(depth)) {
          return false;
        }
        step(stepOf(sign));
      }
      return true;
    }

    private boolean takeTerm(int depth) {
      if (!takePart(depth)) {
        return false;
      }
      for (int i = 0; i < MOST_TAPE && (kind == '*' || kind == '/' || kind == '%'); i++) {
        int sign = kind;
        advance();
        if (!takePart(depth)) {
          return false;
        }
        step(stepOf(sign));
      }
      return true;
    }

    private boolean takePart(int depth) {
      if (kind == '[') {
        if (depth >= MOST_BRACKETS) {
          return fail();
        }
        advance();
        return takeSum(depth + 1) && takeSign(']');
      }
      boolean fits = kind < 0 || kind >= ZERO && kind <= ZERO + MOST_NUMBER;
      if (!fits || partCount >= MOST_PARTS) {
        return fail();
      }
      partCount++;
      step(kind < 0 ? kind : kind - ZERO);
      advance();
      return true;
    }

    private boolean takeSign(int sign) {
      if (kind != sign) {
        return fail();
      }
      advance();
      return true;
    }

    private boolean fail() {
      faultPlace = places[token];
      return false;
    }

    private void step(int what) {
      if (stepCount < MOST_STEPS) {
        steps[stepCount] = what;
        stepCount++;
      }
    }

    /** A step that skips what stands behind, and the place where it will be told how far. */
    private int openSkip(int what) {
      step(what);
      step(0);
      return stepCount - 1;
    }

    private void closeSkip(int hole) {
      if (hole >= 0 && hole < MOST_STEPS) {
        steps[hole] = stepCount;
      }
    }

    private static int stepOf(int sign) {
      switch (sign) {
        case '+': return Law.ADD;
        case '-': return Law.TAKE;
        case '*': return Law.TIMES;
        case '/': return Law.OVER;
        case '%': return Law.LEFT;
        case '<': return Law.LESS;
        case '>': return Law.MORE;
        default: return Law.SAME;
      }
    }

    private void advance() {
      token = Math.min(token + 1, tokenCount);
      kind = kinds[token];
    }

    private void findTokens() {
      tokenCount = 0;
      int at = skipBlanks(0);
      while (at < tape.length && tokenCount < MOST_TAPE) {
        int stop = stopOf(at);
        places[tokenCount] = at;
        kinds[tokenCount] = kindOf(at, stop);
        tokenCount++;
        at = skipBlanks(stop);
      }
      places[tokenCount] = tape.length;
      kinds[tokenCount] = END;
    }

    private int skipBlanks(int from) {
      int at = from;
      while (at < tape.length && tape.byteAt(at) == ' ') {
        at++;
      }
      return at;
    }

    private int stopOf(int from) {
      boolean letters = isLetter(tape.byteAt(from));
      boolean digits = isDigit(tape.byteAt(from));
      int stop = from + 1;
      while (stop < tape.length && (letters && isLetter(tape.byteAt(stop))
          || digits && isDigit(tape.byteAt(stop)))) {
        stop++;
      }
      return stop;
    }

    private int kindOf(int from, int stop) {
      int first = tape.byteAt(from);
      if (isLetter(first)) {
        return wordKind(from, stop);
      }
      return isDigit(first) ? ZERO + numberAt(from, stop) : first;
    }

    /** One more than the greatest that can be for all that are beyond it. */
    private int numberAt(int from, int stop) {
      int number = 0;
      for (int at = from; at < stop; at++) {
        number = Math.min(number * 10 + tape.byteAt(at) - '0', MOST_NUMBER + 1);
      }
      return number;
    }

    private static boolean isLetter(int sign) {
      return sign >= 'a' && sign <= 'z';
    }

    private static boolean isDigit(int sign) {
      return sign >= '0' && sign <= '9';
    }

    private int wordKind(int from, int stop) {
      if (tape.spells("reads", from, stop)) {
        return READS;
      }
      if (tape.spells("if", from, stop)) {
        return IF;
      }
      if (tape.spells("or", from, stop)) {
        return OR;
      }
      if (tape.spells("and", from, stop)) {
        return AND;
      }
      if (tape.spells("not", from, stop)) {
        return NOT;
      }
      return partKind(from, stop);
    }

    private int partKind(int from, int stop) {
      if (tape.spells("state", from, stop)) {
        return Law.STATE;
      }
      if (tape.spells("lit", from, stop)) {
        return Law.LIT;
      }
      if (tape.spells("sum", from, stop)) {
        return Law.SUM;
      }
      if (tape.spells("mix", from, stop)) {
        return Law.MIX;
      }
      if (tape.spells("first", from, stop)) {
        return Law.FIRST;
      }
      if (tape.spells("last", from, stop)) {
        return Law.LAST;
      }
      if (tape.spells("lamps", from, stop)) {
        return Law.LAMPS;
      }
      if (tape.spells("news", from, stop)) {
        return Law.NEWS;
      }
      return OTHER_WORD;
    }
  }

  /** Asks a LAW of a STATE. */
  private static final class Asker {
    private static final long FARTHEST = 1_000_000_000L;
    private static final int MOST_STACK = 64;

    private final int[] words = new int[Law.WORDS];
    private final long[] stack = new long[MOST_STACK];

    int ask(Law law, Coast coast, int state) {
      fillWords(coast, state);
      for (int c = law.clauses - 1; c >= 0 && 2 * c + 2 < law.marks.length; c--) {
        int sum = law.marks[2 * c];
        int test = law.marks[2 * c + 1];
        int end = law.marks[2 * c + 2];
        if (isSo(law.steps, test, end) && works(law.steps, sum, test)) {
          long told = stack[0];
          return told >= 0 && told < coast.news ? (int) told : NONE;
        }
      }
      return NONE;
    }

    private boolean isSo(int[] steps, int from, int to) {
      return from == to || works(steps, from, to) && stack[0] != 0;
    }

    /** Leaves what the steps tell at the bottom of the stack; false, if it is BROKEN. */
    private boolean works(int[] steps, int from, int to) {
      int height = 0;
      int end = Math.min(to, steps.length);
      for (int at = Math.max(0, from); at < end; at++) {
        int step = steps[at];
        if (step >= -Law.WORDS) {
          if (height >= MOST_STACK) {
            return false;
          }
          stack[height] = step >= 0 ? step : words[-1 - step];
          height++;
        } else if (height < 1) {
          return false;
        } else if (step == Law.FLIP) {
          stack[height - 1] = 1 - stack[height - 1];
        } else if (step == Law.OR || step == Law.AND) {
          at++;
          boolean settled = (stack[height - 1] != 0) == (step == Law.OR);
          if (!settled) {
            height--;
          } else if (at < end) {
            at = Math.max(at, steps[at] - 1);
          }
        } else {
          height--;
          if (height < 1 || !join(step, height - 1)) {
            return false;
          }
        }
      }
      return height == 1;
    }

    /** Puts together the two at a place of the stack; false, if that is BROKEN. */
    private boolean join(int step, int place) {
      long a = stack[place];
      long b = stack[place + 1];
      if ((step == Law.OVER || step == Law.LEFT) && b == 0) {
        return false;
      }
      long both;
      switch (step) {
        case Law.ADD: both = a + b; break;
        case Law.TAKE: both = a - b; break;
        case Law.TIMES: both = a * b; break;
        case Law.OVER: both = a / b; break;
        case Law.LEFT: both = a % b; break;
        case Law.LESS: both = a < b ? 1 : 0; break;
        case Law.MORE: both = a > b ? 1 : 0; break;
        default: both = a == b ? 1 : 0; break;
      }
      stack[place] = both;
      return both <= FARTHEST && both >= -FARTHEST;
    }

    private void fillWords(Coast coast, int state) {
      int sum = 0;
      int mix = 0;
      int first = NONE;
      int last = NONE;
      for (int lamp = 0; lamp < coast.lamps; lamp++) {
        if (((state >> lamp) & 1) == 1) {
          sum += lamp + 1;
          mix ^= lamp + 1;
          first = first == NONE ? lamp : first;
          last = lamp;
        }
      }
      words[-1 - Law.STATE] = state;
      words[-1 - Law.LIT] = Integer.bitCount(state);
      words[-1 - Law.SUM] = sum;
      words[-1 - Law.MIX] = mix;
      words[-1 - Law.FIRST] = first;
      words[-1 - Law.LAST] = last;
      words[-1 - Law.LAMPS] = coast.lamps;
      words[-1 - Law.NEWS] = coast.news;
    }
  }

  /** LASTING of every STATE by a CODE. */
  private static final class Lasting {
    final int[] of;
    private final int[] best = new int[MOST_NEWS];

    Lasting(int states) {
      of = new int[states];
    }

    /** From the highest STATE down, as each hangs on those above it alone. */
    void fill(int[] code, int full, int broken, int news) {
      int top = Math.min(full, of.length - 1);
      for (int state = top; state >= 0; state--) {
        fillBest(code, top, broken, state);
        int least = MOST_LAMPS;
        for (int told = 0; told < news && told < MOST_NEWS; told++) {
          if (told != code[state]) {
            least = Math.min(least, best[told] + 1);
          }
        }
        of[state] = least;
      }
    }

    /** The most LASTING STATE above one for each NEWS; NONE, where there is no STATE. */
    private void fillBest(int[] code, int top, int broken, int state) {
      Arrays.fill(best, NONE);
      for (int to = (state + 1) | state; to <= top; to = (to + 1) | state) {
        int told = code[to];
        if (told >= 0 && told < MOST_NEWS && ((to ^ state) & broken) == 0) {
          best[told] = Math.max(best[told], of[to]);
        }
      }
    }
  }

  /** What a KEEPER knows of the CODE, and how one sends by a MANNER. */
  private static final class Keeper {
    private static final int MOST_CHAIN = MOST_LAMPS + 1;

    final Coast coast;
    final int[] oilTable = new int[MOST_STATES];
    final int[] failingNews = new int[MOST_CHAIN];
    final int[] chosen = new int[MOST_NEWS];
    private final Lasting lasting = new Lasting(MOST_STATES);
    private final Lasting hurtLasting = new Lasting(MOST_STATES);
    private final long[] meanTable = new long[MOST_STATES];
    private final long[] richest = new long[MOST_NEWS];
    private final int[] newsAtDistance = new int[MOST_LAMPS + 1];
    private long meanUnit = 1;
    boolean oilFresh;
    private boolean lastingFresh;
    private boolean meanFresh;

    Keeper(Coast coast) {
      this.coast = coast;
    }

    void forgetTables() {
      oilFresh = false;
      lastingFresh = false;
      meanFresh = false;
    }

    int oilOf(int state) {
      fillOil();
      return oilTable[state];
    }

    int lastingOf(int state) {
      fillLasting();
      return lasting.of[state];
    }

    int lastingWithout(int lamp) {
      hurtLasting.fill(coast.code, coast.full(), coast.broken | (1 << lamp), coast.news);
      return hurtLasting.of[0];
    }

    long meanPart(int state, boolean upper) {
      fillMean();
      long above = meanTable[state];
      long below = coast.code[state] == NONE ? meanUnit * coast.news : meanUnit;
      long common = Math.max(1, commonDivisor(above, below));
      return upper ? above / common : below / common;
    }

    int choose(int state, int news, int manner) {
      chooseAll(state, manner);
      return chosen[news];
    }

    /** For each NEWS the STATE by which it is SENT from a STATE by a MANNER, or NONE. */
    void chooseAll(int state, int manner) {
      Arrays.fill(chosen, NONE);
      int full = coast.full();
      for (int to = state; to <= full; to = (to + 1) | state) {
        int told = coast.code[to];
        if (told >= 0 && told < MOST_NEWS && coast.canLight(state, to)
            && (chosen[told] == NONE || isBetter(to, chosen[told], manner))) {
          chosen[told] = to;
        }
      }
    }

    boolean wouldLight(int from, int to, int manner) {
      if (!coast.isState(from) || !coast.isState(to) || (from & to) != from) {
        return false;
      }
      int told = coast.code[to];
      return told != NONE && choose(from, told, manner) == to;
    }

    /** Finds the row FAILING; its length. */
    int findFailing() {
      int state = 0;
      for (int i = 0; i < MOST_CHAIN; i++) {
        chooseAll(state, MOST_LASTING);
        int worst = NONE;
        for (int told = 0; told < coast.news; told++) {
          if (told != coast.code[state]
              && (worst == NONE || lastsBy(chosen[told]) < lastsBy(chosen[worst]))) {
            worst = told;
          }
        }
        if (worst == NONE) {
          return i;
        }
        failingNews[i] = worst;
        if (chosen[worst] == NONE) {
          return i + 1;
        }
        state = chosen[worst];
      }
      return MOST_CHAIN;
    }

    /**
     * Two STATES can be taken for one another when something is seen that both have and from which
     * neither is farther than what may be MISSED.
     */
    int findSafe() {
      int full = coast.full();
      int safe = MOST_MISSED;
      for (int seen = 0; seen <= full; seen++) {
        safe = Math.min(safe, firstDoubt(seen, full) - 1);
      }
      return safe;
    }

    /** How many must be MISSED at least for two NEWS behind what is seen; 9, if there are none. */
    private int firstDoubt(int seen, int full) {
      Arrays.fill(newsAtDistance, 0);
      for (int real = seen; real <= full; real = (real + 1) | seen) {
        newsAtDistance[Integer.bitCount(real ^ seen)] |= coast.newsBit(real);
      }
      int bits = 0;
      for (int missed = 0; missed <= MOST_LAMPS; missed++) {
        bits |= newsAtDistance[missed];
        if (Integer.bitCount(bits) > 1) {
          return missed;
        }
      }
      return MOST_MISSED + 1;
    }

    private int lastsBy(int state) {
      return state == NONE ? NONE : lasting.of[state];
    }

    private boolean isBetter(int a, int b, int manner) {
      switch (manner) {
        case LEAST_OIL:
          return oilTable[a] < oilTable[b];
        case MOST_LASTING:
          return lasting.of[a] > lasting.of[b]
              || lasting.of[a] == lasting.of[b] && Integer.bitCount(a) < Integer.bitCount(b);
        case GREATEST_MEAN:
          return meanTable[a] > meanTable[b];
        default:
          return Integer.bitCount(a) < Integer.bitCount(b);
      }
    }

    /** Makes the table by which a MANNER chooses: to be called ahead of choosing. */
    void prepare(int manner) {
      switch (manner) {
        case LEAST_OIL: fillOil(); break;
        case MOST_LASTING: fillLasting(); break;
        case GREATEST_MEAN: fillMean(); break;
        default: break;
      }
    }

    void fillOil() {
      if (oilFresh) {
        return;
      }
      oilFresh = true;
      oilTable[0] = 0;
      for (int lamp = 0; lamp < coast.lamps; lamp++) {
        int bit = 1 << lamp;
        for (int below = 0; below < bit; below++) {
          oilTable[bit | below] = oilTable[below] + coast.oil[lamp];
        }
      }
    }

    private void fillLasting() {
      if (!lastingFresh) {
        lastingFresh = true;
        lasting.fill(coast.code, coast.full(), coast.broken, coast.news);
      }
    }

    /**
     * Whoever sends stands on a STATE that is READ, but for the first: so each MEAN divides by K - 1
     * once for each LAMP and once more, and the ninth power of K - 1 is a lower number for all.
     */
    private void fillMean() {
      if (meanFresh) {
        return;
      }
      meanFresh = true;
      meanUnit = 1;
      for (int i = 0; i < MOST_CHAIN; i++) {
        meanUnit *= coast.news - 1;
      }
      for (int state = coast.full(); state >= 0; state--) {
        meanTable[state] = meanOf(state);
      }
    }

    /** MEAN of a STATE times the unit; of one that is not READ times K, too. */
    private long meanOf(int state) {
      fillRichest(state);
      int own = coast.code[state];
      long together = own == NONE ? 0 : meanUnit;
      for (int told = 0; told < coast.news; told++) {
        if (told != own && richest[told] != NONE) {
          together += meanUnit + richest[told];
        }
      }
      return own == NONE ? together : together / Math.max(1, coast.news - 1);
    }

    private void fillRichest(int state) {
      Arrays.fill(richest, NONE);
      int full = coast.full();
      for (int to = (state + 1) | state; to <= full; to = (to + 1) | state) {
        int told = coast.code[to];
        if (told >= 0 && told < MOST_NEWS && coast.canLight(state, to)) {
          richest[told] = Math.max(richest[told], meanTable[to]);
        }
      }
    }

    private static long commonDivisor(long a, long b) {
      for (int i = 0; i < 200 && b != 0; i++) {
        long rest = a % b;
        a = b;
        b = rest;
      }
      return a;
    }
  }

  /** Counts ROWS that lead from the DARK to a STATE. */
  private static final class RowCounter {
    private final Keeper keeper;
    private final long[] many = new long[(MOST_ROW + 1) * MOST_STATES];

    RowCounter(Keeper keeper) {
      this.keeper = keeper;
    }

    /** ROWS of t NEWS; if a place is told, those alone that have the told NEWS there. */
    long countRows(int t, int goal, int manner, int place, int told) {
      keeper.prepare(manner);
      Arrays.fill(many, 0, (t + 1) * MOST_STATES, 0L);
      many[0] = 1;
      // Each NEWS lights some LAMP, so STATES come in their order, and below the goal alone.
      for (int state = 0; state < goal; state++) {
        if ((state & goal) == state && isMet(state, t)) {
          spread(state, t, manner, place, told);
        }
      }
      return many[t * MOST_STATES + goal];
    }

    private boolean isMet(int state, int t) {
      for (int sent = 0; sent < t; sent++) {
        if (many[sent * MOST_STATES + state] != 0) {
          return true;
        }
      }
      return false;
    }

    private void spread(int state, int t, int manner, int place, int told) {
      keeper.chooseAll(state, manner);
      int own = keeper.coast.code[state];
      for (int news = 0; news < keeper.coast.news; news++) {
        int to = keeper.chosen[news];
        if (news == own || to == NONE) {
          continue;
        }
        for (int sent = 0; sent < t; sent++) {
          if (sent != place || news == told) {
            many[(sent + 1) * MOST_STATES + to] += many[sent * MOST_STATES + state];
          }
        }
      }
    }
  }

  /** What is WANTED, SENT for the least OIL: that is the OIL of the last STATE. */
  private static final class Errand {
    private static final long MOST_WAYS = 1_000_000_000L;

    final int[] states = new int[MOST_WANTED];
    int least;
    int manyWays;
    boolean fresh;
    private final Keeper keeper;
    private final Coast coast;
    private final long[] ways = new long[MOST_STATES];
    // Bit i, from 1 on: if i NEWS are SENT, the others can be SENT from here for the least OIL.
    private final int[] open = new int[MOST_STATES];

    Errand(Keeper keeper) {
      this.keeper = keeper;
      this.coast = keeper.coast;
    }

    void solve() {
      if (fresh) {
        return;
      }
      fresh = true;
      keeper.fillOil();
      countWays();
      findLeast();
      if (least != NONE) {
        findOpen();
        findStates();
      }
    }

    private void countWays() {
      Arrays.fill(ways, 0L);
      ways[0] = 1;
      int full = coast.full();
      for (int i = 0; i < coast.wantedCount; i++) {
        for (int lamp = 0; lamp < coast.lamps; lamp++) {
          spreadUp(1 << lamp, full);
        }
        for (int state = 0; state <= full; state++) {
          if (coast.code[state] != coast.wanted[i]) {
            ways[state] = 0;
          }
        }
      }
    }

    private void spreadUp(int bit, int full) {
      if ((coast.broken & bit) != 0) {
        return;
      }
      for (int state = bit; state <= full; state = (state + 1) | bit) {
        ways[state] += ways[state ^ bit];
      }
    }

    private void findLeast() {
      least = NONE;
      long together = 0;
      int full = coast.full();
      for (int state = 0; state <= full; state++) {
        int oil = keeper.oilTable[state];
        if (ways[state] == 0 || least != NONE && oil > least) {
          continue;
        }
        together = oil == least ? together + ways[state] : ways[state];
        least = oil;
      }
      manyWays = (int) Math.min(together, MOST_WAYS);
    }

    private void findOpen() {
      int full = coast.full();
      for (int state = 0; state <= full; state++) {
        open[state] = keeper.oilTable[state] == least ? 1 << coast.wantedCount : 0;
      }
      for (int i = coast.wantedCount - 1; i >= 1; i--) {
        for (int state = 0; state <= full; state++) {
          open[state] |= goesOn(state, i) ? 1 << i : 0;
        }
        for (int lamp = 0; lamp < coast.lamps; lamp++) {
          spreadDown(1 << lamp, full, 1 << i);
        }
      }
    }

    private void spreadDown(int bit, int full, int mark) {
      if ((coast.broken & bit) != 0) {
        return;
      }
      for (int state = bit; state <= full; state = (state + 1) | bit) {
        open[state ^ bit] |= open[state] & mark;
      }
    }

    /** Whether a STATE may be the i-th. */
    private boolean goesOn(int state, int i) {
      return coast.code[state] == coast.wanted[i] && ((open[state] >> (i + 1)) & 1) == 1;
    }

    private void findStates() {
      int full = coast.full();
      int from = 0;
      for (int i = 0; i < coast.wantedCount; i++) {
        int to = from;
        while (to <= full && !(goesOn(to, i) && coast.canLight(from, to))) {
          to = (to + 1) | from;
        }
        if (to > full) {
          return;
        }
        states[i] = to;
        from = to;
      }
    }
  }

  /**
   * All CODES by few LAMPS and NEWS. What a CODE is LASTING does not hang on which NEWS is which:
   * so those are looked at in which each NEWS comes first behind all lower ones, and each stands
   * for as many as there are ways to name its NEWS. The first of all is one of them.
   */
  private static final class CodeSearch {
    private static final int MOST_SEARCHED_LAMPS = 3;
    private static final int MOST_SEARCHED_NEWS = 4;
    private static final int MOST_LASTING_ASKED = 8;
    private static final int STATES = 8;
    private static final int NEWS_CHOICES = MOST_SEARCHED_NEWS - 1;
    private static final int PAIRS = MOST_SEARCHED_LAMPS * NEWS_CHOICES;
    private static final int STEPS = MOST_SEARCHED_LAMPS + 1;
    private static final int MOST_TURNS = 65_536;

    private final Lasting lasting = new Lasting(STATES);
    private final int[] row = new int[STATES];
    private final int[] peak = new int[STATES];
    private final int[] counts = new int[PAIRS * STEPS];
    private final int[] firsts = new int[PAIRS * STEPS * STATES];
    private final boolean[] searched = new boolean[PAIRS];

    static boolean isSearched(int n, int k, int t) {
      return n >= 1 && n <= MOST_SEARCHED_LAMPS && k >= 2 && k <= MOST_SEARCHED_NEWS
          && t >= 0 && t <= MOST_LASTING_ASKED;
    }

    int countCodes(int n, int k, int t) {
      if (t > MOST_SEARCHED_LAMPS) {
        return 0;
      }
      int pair = pairOf(n, k);
      if (!searched[pair]) {
        searched[pair] = true;
        search(pair, n, k);
      }
      return counts[pair * STEPS + t];
    }

    /** Only for those of which there are some. */
    void copyFirst(int n, int k, int t, int[] code) {
      if (countCodes(n, k, t) > 0) {
        System.arraycopy(firsts, (pairOf(n, k) * STEPS + t) * STATES, code, 0, 1 << n);
      }
    }

    private static int pairOf(int n, int k) {
      return (n - 1) * NEWS_CHOICES + k - 2;
    }

    private void search(int pair, int n, int k) {
      int states = 1 << n;
      Arrays.fill(row, 0);
      Arrays.fill(peak, 0);
      boolean more = true;
      for (int turn = 0; turn < MOST_TURNS && more; turn++) {
        lasting.fill(row, states - 1, 0, k);
        note(pair, lasting.of[0], namings(k, peak[states - 1] + 1));
        more = turnOn(states, k);
      }
    }

    private void note(int pair, int lasts, int many) {
      for (int t = 0; t <= lasts && t < STEPS; t++) {
        int place = pair * STEPS + t;
        if (counts[place] == 0) {
          System.arraycopy(row, 0, firsts, place * STATES, STATES);
        }
        counts[place] += many;
      }
    }

    private static int namings(int k, int used) {
      int many = 1;
      for (int i = 0; i < used; i++) {
        many *= k - i;
      }
      return many;
    }

    /** The next row in order; false, if that was the last. */
    private boolean turnOn(int states, int k) {
      int at = states - 1;
      while (at > 0 && row[at] == Math.min(k - 1, peak[at - 1] + 1)) {
        at--;
      }
      if (at == 0) {
        return false;
      }
      row[at]++;
      peak[at] = Math.max(peak[at - 1], row[at]);
      for (int i = at + 1; i < states; i++) {
        row[i] = 0;
        peak[i] = peak[i - 1];
      }
      return true;
    }
  }
}
