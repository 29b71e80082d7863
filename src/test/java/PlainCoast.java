import java.math.BigInteger;
import java.util.ArrayList;
import java.util.Arrays;
import java.util.HashMap;
import java.util.List;
import java.util.Map;
import java.util.TreeSet;
import java.util.regex.Matcher;
import java.util.regex.Pattern;

/**
 * The document once more, as plainly as can be and without much thought for speed: each answer is
 * found from the words of the terms. From call to call it keeps alone what STATES are LASTING and
 * their MEAN, as long as the coast looks the same.
 */
final class PlainCoast {
  static final int NONE = -1;

  /** All that an IMAGE keeps. */
  static final class Kept {
    int n = 3;
    int k = 4;
    int[] oil = {1, 1, 1, 1, 1, 1, 1, 1};
    boolean[] broken = new boolean[8];
    Map<Integer, Integer> code = new HashMap<>();
    List<String> laws = new ArrayList<>();
    int state = 0;
    List<Integer> log = new ArrayList<>();
    List<Integer> wanted = new ArrayList<>();

    Kept copy() {
      Kept c = new Kept();
      c.n = n;
      c.k = k;
      c.oil = oil.clone();
      c.broken = broken.clone();
      c.code = new HashMap<>(code);
      c.laws = new ArrayList<>(laws);
      c.state = state;
      c.log = new ArrayList<>(log);
      c.wanted = new ArrayList<>(wanted);
      return c;
    }
  }

  Kept now = new Kept();
  Kept[] images = new Kept[2];
  StringBuilder tape = new StringBuilder();
  int fault = NONE;
  int torn = 0;
  List<Integer> trail = new ArrayList<>();
  List<Integer> drawn = new ArrayList<>();
  int unsent = NONE;
  int status = 0;
  Map<Integer, Integer> refused = new HashMap<>();

  private int no(int by) {
    status = by;
    refused.merge(by, 1, Integer::sum);
    return by;
  }

  private int yes(int answer) {
    status = 0;
    return answer;
  }

  private int states() {
    return 1 << now.n;
  }

  private boolean okState(int s) {
    return 0 <= s && s < states();
  }

  private boolean okNews(int j) {
    return 0 <= j && j < now.k;
  }

  private boolean okManner(int m) {
    return 0 <= m && m < 4;
  }

  private void forget() {
    now.code.clear();
    now.state = 0;
    now.log.clear();
    now.wanted.clear();
  }

  int lamps(int n) {
    if (n < 1 || n > 8) {
      return no(-1);
    }
    int was = now.n;
    now.n = n;
    Arrays.fill(now.oil, 1);
    Arrays.fill(now.broken, false);
    forget();
    return yes(was);
  }

  int news(int k) {
    if (k < 2 || k > 8) {
      return no(-1);
    }
    int was = now.k;
    now.k = k;
    forget();
    return yes(was);
  }

  int oil(int lamp, int oil) {
    if (lamp < 0 || lamp >= now.n || oil < 0 || oil > 99) {
      return no(-1);
    }
    int was = now.oil[lamp];
    now.oil[lamp] = oil;
    return yes(was);
  }

  int broken(int lamp, int is) {
    if (lamp < 0 || lamp >= now.n || is != 0 && is != 1) {
      return no(-1);
    }
    int was = now.broken[lamp] ? 1 : 0;
    now.broken[lamp] = is == 1;
    return yes(was);
  }

  int read(int state, int news) {
    if (!okState(state) || news != NONE && !okNews(news)) {
      return no(-1);
    }
    int was = of(state);
    now.code.remove(state);
    if (news != NONE) {
      now.code.put(state, news);
    }
    return yes(was);
  }

  int of(int state) {
    return now.code.getOrDefault(state, NONE);
  }

  int feed(int a, int b, int c, int d, int e) {
    if (tape.length() + 20 > 400) {
      return NONE;
    }
    for (int four : new int[] {a, b, c, d, e}) {
      for (byte one : java.nio.ByteBuffer.allocate(4).putInt(four).array()) {
        tape.append((char) (one & 255));
      }
    }
    return tape.length();
  }

  int end(int n) {
    if (n < 0 || n > tape.length()) {
      return NONE;
    }
    tape.setLength(n);
    return n;
  }

  int row() {
    if (tape.length() == 0) {
      return no(-6);
    }
    now.code.clear();
    torn = 0;
    for (int i = 0; i < tape.length(); i++) {
      if (i >= states()) {
        torn++;
      } else if (tape.charAt(i) < now.k) {
        now.code.put(i, (int) tape.charAt(i));
      }
    }
    tape.setLength(0);
    return yes(now.code.size());
  }

  int law() {
    String text = tape.toString();
    tape.setLength(0);
    if (now.laws.size() == 6) {
      return no(-5);
    }
    try {
      new Text(text).whole();
      fault = NONE;
    } catch (Fault f) {
      fault = f.place;
      return no(-6);
    }
    now.laws.add(text);
    return yes(now.laws.size() - 1);
  }

  int learn(int law) {
    if (law < 0 || law >= now.laws.size()) {
      return no(-2);
    }
    List<Clause> clauses;
    try {
      clauses = new Text(now.laws.get(law)).whole();
    } catch (Fault f) {
      throw new IllegalStateException();
    }
    now.code.clear();
    for (int s = 0; s < states(); s++) {
      long told = NONE;
      for (Clause c : clauses) {
        try {
          if (c.test == null || c.test.ask(s, now) != 0) {
            told = c.sum.ask(s, now);
          }
        } catch (Broken b) {
          continue;
        }
      }
      if (told >= 0 && told < now.k) {
        now.code.put(s, (int) told);
      }
    }
    return yes(now.code.size());
  }

  private boolean canLight(int from, int to) {
    if ((from & to) != from) {
      return false;
    }
    for (int lamp = 0; lamp < now.n; lamp++) {
      boolean more = (to >> lamp & 1) == 1 && (from >> lamp & 1) == 0;
      if (more && now.broken[lamp]) {
        return false;
      }
    }
    return true;
  }

  private List<Integer> sendings(int from, int news) {
    List<Integer> all = new ArrayList<>();
    for (int to = 0; to < states(); to++) {
      if ((from & to) == from && of(to) == news && canLight(from, to)) {
        all.add(to);
      }
    }
    return all;
  }

  private int oilOf(int lamps) {
    int all = 0;
    for (int lamp = 0; lamp < now.n; lamp++) {
      all += (lamps >> lamp & 1) * now.oil[lamp];
    }
    return all;
  }

  private final Map<Integer, Integer> lastingKnown = new HashMap<>();
  private final Map<Integer, Frac> meanKnown = new HashMap<>();
  private String look = "";

  /** Forgets what is known if anything that it hangs on is other than it was. */
  private void look() {
    String then = now.n + " " + now.k + Arrays.toString(now.broken) + now.code;
    if (!then.equals(look)) {
      look = then;
      lastingKnown.clear();
      meanKnown.clear();
    }
  }

  private int lasting(int state, Map<Integer, Integer> known) {
    Integer k = known.get(state);
    if (k != null) {
      return k;
    }
    int worst = Integer.MAX_VALUE;
    for (int news = 0; news < now.k; news++) {
      if (news == of(state)) {
        continue;
      }
      int best = 0;
      for (int to : sendings(state, news)) {
        best = Math.max(best, 1 + lasting(to, known));
      }
      worst = Math.min(worst, best);
    }
    known.put(state, worst);
    return worst;
  }

  static final class Frac {
    final BigInteger up;
    final BigInteger low;

    Frac(BigInteger up, BigInteger low) {
      BigInteger g = up.gcd(low);
      this.up = up.divide(g);
      this.low = low.divide(g);
    }

    static Frac of(long n) {
      return new Frac(BigInteger.valueOf(n), BigInteger.ONE);
    }

    Frac plus(Frac o) {
      return new Frac(up.multiply(o.low).add(o.up.multiply(low)), low.multiply(o.low));
    }

    Frac over(long n) {
      return new Frac(up, low.multiply(BigInteger.valueOf(n)));
    }

    int compare(Frac o) {
      return up.multiply(o.low).compareTo(o.up.multiply(low));
    }
  }

  private Frac meanOf(int state, Map<Integer, Frac> known) {
    Frac k = known.get(state);
    if (k != null) {
      return k;
    }
    // M = (sum over NEWS of 1 + M then) / K; M itself stands in it once if the STATE is READ.
    Frac all = Frac.of(0);
    int itself = 0;
    for (int news = 0; news < now.k; news++) {
      if (news == of(state)) {
        all = all.plus(Frac.of(1));
        itself = 1;
        continue;
      }
      Frac best = null;
      for (int to : sendings(state, news)) {
        Frac m = meanOf(to, known);
        best = best == null || m.compare(best) > 0 ? m : best;
      }
      if (best != null) {
        all = all.plus(Frac.of(1)).plus(best);
      }
    }
    Frac m = all.over(now.k - itself);
    known.put(state, m);
    return m;
  }

  private int keeper(int state, int news, int manner, Map<Integer, Integer> l, Map<Integer, Frac> m) {
    int best = NONE;
    for (int to : sendings(state, news)) {
      if (best == NONE) {
        best = to;
        continue;
      }
      int fewer = Integer.bitCount(best) - Integer.bitCount(to);
      int better;
      switch (manner) {
        case 0: better = fewer; break;
        case 1: better = oilOf(best & ~state) - oilOf(to & ~state); break;
        case 2:
          better = lasting(to, l) - lasting(best, l);
          better = better != 0 ? better : fewer;
          break;
        default: better = meanOf(to, m).compare(meanOf(best, m));
      }
      best = better > 0 ? to : best;
    }
    return best;
  }

  int next(int state, int news, int manner) {
    if (!okState(state) || !okNews(news) || !okManner(manner)) {
      return NONE;
    }
    look();
    return keeper(state, news, manner, lastingKnown, meanKnown);
  }

  int ways(int state, int news) {
    return okState(state) && okNews(news) ? sendings(state, news).size() : NONE;
  }

  int lasts(int state) {
    look();
    return okState(state) ? lasting(state, lastingKnown) : NONE;
  }

  long mean(int state, int what) {
    if (!okState(state) || what != 0 && what != 1) {
      return NONE;
    }
    look();
    Frac m = meanOf(state, meanKnown);
    return (what == 0 ? m.up : m.low).longValueExact();
  }

  private TreeSet<Integer> reachedSet() {
    TreeSet<Integer> found = new TreeSet<>();
    List<Integer> todo = new ArrayList<>();
    todo.add(0);
    while (!todo.isEmpty()) {
      int s = todo.remove(todo.size() - 1);
      if (found.add(s)) {
        for (int news = 0; news < now.k; news++) {
          todo.addAll(sendings(s, news));
        }
      }
    }
    return found;
  }

  int reached(int state) {
    if (state == NONE) {
      return reachedSet().size();
    }
    return okState(state) ? reachedSet().contains(state) ? 1 : 0 : NONE;
  }

  int failing(int i) {
    List<Integer> row = new ArrayList<>();
    look();
    Map<Integer, Integer> l = lastingKnown;
    int s = 0;
    while (s != NONE) {
      int worst = NONE;
      int worstLasts = Integer.MAX_VALUE;
      int worstState = NONE;
      for (int news = 0; news < now.k; news++) {
        if (news != of(s)) {
          int to = keeper(s, news, 2, l, null);
          int lasts = to == NONE ? -1 : lasting(to, l);
          if (lasts < worstLasts) {
            worst = news;
            worstLasts = lasts;
            worstState = to;
          }
        }
      }
      row.add(worst);
      s = worstState;
    }
    return i == NONE ? row.size() : 0 <= i && i < row.size() ? row.get(i) : NONE;
  }

  int hurts(int lamp) {
    if (lamp < 0 || lamp >= now.n) {
      return NONE;
    }
    boolean was = now.broken[lamp];
    now.broken[lamp] = true;
    int lasts = lasts(0);
    now.broken[lamp] = was;
    return lasts;
  }

  /** For n, k: the number of each CODE (a row by STATES, the first the highest) and how it lasts. */
  private static final Map<Integer, int[]> ALL = new HashMap<>();

  private static int[] all(int n, int k) {
    return ALL.computeIfAbsent(10 * n + k, key -> {
      int states = 1 << n;
      int many = (int) Math.round(Math.pow(k, states));
      int[] lasts = new int[many];
      PlainCoast p = new PlainCoast();
      p.lamps(n);
      p.news(k);
      for (int c = 0; c < many; c++) {
        int rest = c;
        for (int s = states - 1; s >= 0; s--) {
          p.now.code.put(s, rest % k);
          rest /= k;
        }
        lasts[c] = p.lasts(0);
      }
      return lasts;
    });
  }

  private boolean okCodes(int n, int k, int t) {
    return 1 <= n && n <= 3 && 2 <= k && k <= 4 && 0 <= t && t <= 8;
  }

  int codes(int n, int k, int t) {
    return okCodes(n, k, t) ? (int) Arrays.stream(all(n, k)).filter(l -> l >= t).count() : NONE;
  }

  int make(int n, int k, int t) {
    if (!okCodes(n, k, t)) {
      return no(-1);
    }
    if (n != now.n || k != now.k) {
      return no(-3);
    }
    int[] lasts = all(n, k);
    for (int c = 0; c < lasts.length; c++) {
      if (lasts[c] >= t) {
        int rest = c;
        for (int s = states() - 1; s >= 0; s--) {
          now.code.put(s, rest % k);
          rest /= k;
        }
        return yes(0);
      }
    }
    return no(-3);
  }

  int send(int news, int manner) {
    if (!okNews(news) || !okManner(manner)) {
      return no(-1);
    }
    int to = next(now.state, news, manner);
    if (to == NONE) {
      return no(-3);
    }
    if (now.log.size() == 24) {
      return no(-5);
    }
    int more = Integer.bitCount(to) - Integer.bitCount(now.state);
    now.state = to;
    now.log.add(to);
    return yes(more);
  }

  int dawn() {
    int lit = Integer.bitCount(now.state);
    now.state = 0;
    now.log.clear();
    return lit;
  }

  int log(int i) {
    return i == NONE ? now.state : 0 <= i && i < now.log.size() ? now.log.get(i) : NONE;
  }

  int burnt() {
    return oilOf(now.state);
  }

  int trail() {
    if (tape.length() == 0) {
      return no(-6);
    }
    trail.clear();
    for (int i = 0; i < Math.min(30, tape.length()); i++) {
      trail.add((int) tape.charAt(i));
    }
    tape.setLength(0);
    return yes(trail.size());
  }

  int judge(int manner) {
    if (!okManner(manner)) {
      return NONE;
    }
    int ahead = 0;
    for (int i = 0; i < trail.size(); i++) {
      int s = trail.get(i);
      if ((s & ahead) != ahead || !okState(s) || !canLight(ahead, s) || of(s) == NONE
          || next(ahead, of(s), manner) != s) {
        return i;
      }
      ahead = s;
    }
    return NONE;
  }

  long rows(int t, int state, int manner) {
    if (t < 0 || t > 8 || !okState(state) || !okManner(manner)) {
      return NONE;
    }
    return walk(0, 0, t, state, manner, NONE, NONE, new HashMap<>());
  }

  long could(int t, int state, int manner, int j, int news) {
    if (t < 0 || t > 8 || !okState(state) || !okManner(manner) || j < 0 || j >= t || !okNews(news)) {
      return NONE;
    }
    return walk(0, 0, t, state, manner, j, news, new HashMap<>());
  }

  /** Every ROW is walked by itself; known has only where a KEEPER goes. */
  private long walk(int s, int sent, int t, int goal, int manner, int j, int there,
      Map<Integer, Integer> known) {
    if (sent == t) {
      return s == goal ? 1 : 0;
    }
    long many = 0;
    for (int news = 0; news < now.k; news++) {
      if (news == of(s) || sent == j && news != there) {
        continue;
      }
      int way = news;
      int to = known.computeIfAbsent(8 * s + news, key -> next(s, way, manner));
      if (to != NONE) {
        many += walk(to, sent + 1, t, goal, manner, j, there, known);
      }
    }
    return many;
  }

  int maybe(int state, int missed) {
    if (!okState(state) || missed < 0 || missed > 8) {
      return NONE;
    }
    return maybe(state, missed, reachedSet());
  }

  private int maybe(int state, int missed, TreeSet<Integer> reached) {
    int bits = 0;
    for (int s : reached) {
      int more = Integer.bitCount(s) - Integer.bitCount(state);
      if (of(s) != NONE && (s & state) == state && more <= missed) {
        bits |= 1 << of(s);
      }
    }
    return bits;
  }

  int safe() {
    TreeSet<Integer> reached = reachedSet();
    for (int missed = 1; missed <= 8; missed++) {
      for (int s : reached) {
        for (int seen = 0; seen <= s; seen++) {
          boolean sees = (s & seen) == seen && Integer.bitCount(s ^ seen) <= missed;
          if (sees && of(s) != NONE && (maybe(seen, missed, reached) & ~(1 << of(s))) != 0) {
            return missed - 1;
          }
        }
      }
    }
    return 8;
  }

  int spy(int lit) {
    if (lit < 0 || lit > now.n) {
      return NONE;
    }
    int bits = 0;
    for (int s : reachedSet()) {
      bits |= Integer.bitCount(s) == lit && of(s) != NONE ? 1 << of(s) : 0;
    }
    return bits;
  }

  int want(int news) {
    if (!okNews(news)) {
      return no(-1);
    }
    if (now.wanted.size() == 16) {
      return no(-5);
    }
    now.wanted.add(news);
    return yes(now.wanted.size());
  }

  int unwant() {
    int was = now.wanted.size();
    now.wanted.clear();
    return was;
  }

  /** Least OIL for what is WANTED from the i-th on, from a STATE, and in how many ways; null: none. */
  private BigInteger[] rest(int i, int from, Map<Integer, BigInteger[]> known) {
    if (i == now.wanted.size()) {
      return new BigInteger[] {BigInteger.ZERO, BigInteger.ONE};
    }
    int key = 256 * i + from;
    if (known.containsKey(key)) {
      return known.get(key);
    }
    BigInteger[] best = null;
    for (int to : sendings(from, now.wanted.get(i))) {
      BigInteger[] then = rest(i + 1, to, known);
      if (then == null) {
        continue;
      }
      BigInteger oil = then[0].add(BigInteger.valueOf(oilOf(to & ~from)));
      int c = best == null ? -1 : oil.compareTo(best[0]);
      if (c < 0) {
        best = new BigInteger[] {oil, then[1]};
      } else if (c == 0) {
        best[1] = best[1].add(then[1]);
      }
    }
    known.put(key, best);
    return best;
  }

  int cheap(int what) {
    if (what != 0 && what != 1) {
      return NONE;
    }
    BigInteger[] best = rest(0, 0, new HashMap<>());
    if (best == null) {
      return what == 0 ? NONE : 0;
    }
    return best[what].min(BigInteger.valueOf(1_000_000_000)).intValue();
  }

  int plan(int i) {
    Map<Integer, BigInteger[]> known = new HashMap<>();
    if (i < 0 || i >= now.wanted.size() || rest(0, 0, known) == null) {
      return NONE;
    }
    int from = 0;
    for (int at = 0; at <= i; at++) {
      BigInteger due = rest(at, from, known)[0];
      for (int to : sendings(from, now.wanted.get(at))) {
        BigInteger[] then = rest(at + 1, to, known);
        if (then != null && then[0].add(BigInteger.valueOf(oilOf(to & ~from))).equals(due)) {
          from = to;
          break;
        }
      }
    }
    return from;
  }

  int night(int seed, int many, int manner) {
    if (seed < 0 || seed > 1_000_000 || many < 0 || many > 24 || !okManner(manner)) {
      return no(-1);
    }
    drawn.clear();
    unsent = NONE;
    long s = seed;
    int state = 0;
    while (drawn.size() < many) {
      s = (s * 1103 + 12345) % 1_000_003;
      int news = (int) (s % now.k);
      int to = next(state, news, manner);
      if (to == NONE) {
        unsent = news;
        break;
      }
      state = to;
      drawn.add(to);
    }
    return yes(drawn.size());
  }

  int drawn(int i) {
    return i == NONE ? unsent : 0 <= i && i < drawn.size() ? drawn.get(i) : NONE;
  }

  int image(int k) {
    if (k != 0 && k != 1) {
      return no(-1);
    }
    images[k] = now.copy();
    return yes(0);
  }

  int back(int k) {
    if (k != 0 && k != 1) {
      return no(-1);
    }
    if (images[k] == null) {
      return no(-2);
    }
    now = images[k].copy();
    return yes(0);
  }

  int count(int what) {
    int[] by = {-1, -2, -3, -5, -6};
    if (what >= 7 && what <= 11) {
      return refused.getOrDefault(by[what - 7], 0);
    }
    switch (what) {
      case 0: return now.n;
      case 1: return now.k;
      case 2: return now.laws.size();
      case 3: return now.code.size();
      case 4: return now.log.size();
      case 5: return now.wanted.size();
      case 6: return tape.length();
      case 12: return trail.size();
      default: return NONE;
    }
  }

  // The language of LAWS.

  static final class Fault extends Exception {
    private static final long serialVersionUID = 1;
    final int place;

    Fault(int place) {
      this.place = place;
    }
  }

  static final class Broken extends Exception {
    private static final long serialVersionUID = 1;
  }

  interface Node {
    long ask(int state, Kept k) throws Broken;
  }

  static final class Clause {
    Node sum;
    Node test;
  }

  /** A TEXT as a list of TOKENS, read from left to right. */
  static final class Text {
    private static final List<String> WORDS =
        Arrays.asList("state", "lit", "sum", "mix", "first", "last", "lamps", "news");
    private final List<String> tokens = new ArrayList<>();
    private final List<Integer> places = new ArrayList<>();
    private int at = 0;
    private int parts = 0;
    private int open = 0;

    Text(String text) {
      Matcher m = Pattern.compile("[a-z]+|[0-9]+|[^ ]", Pattern.DOTALL).matcher(text);
      while (m.find()) {
        tokens.add(m.group());
        places.add(m.start());
      }
      tokens.add("");
      places.add(text.length());
    }

    private String token() {
      return tokens.get(at);
    }

    private boolean takes(String t) {
      if (token().equals(t)) {
        at++;
        return true;
      }
      return false;
    }

    private void must(boolean so) throws Fault {
      if (!so) {
        throw new Fault(places.get(at));
      }
    }

    List<Clause> whole() throws Fault {
      List<Clause> all = new ArrayList<>();
      do {
        must(all.size() < 12);
        must(takes("reads"));
        Clause c = new Clause();
        c.sum = sum();
        if (takes("if")) {
          c.test = test();
        }
        all.add(c);
      } while (takes(";"));
      must(token().isEmpty());
      return all;
    }

    private Node test() throws Fault {
      List<Node> all = new ArrayList<>();
      do {
        all.add(both());
      } while (takes("or"));
      return (s, k) -> {
        for (Node n : all) {
          if (n.ask(s, k) != 0) {
            return 1;
          }
        }
        return 0;
      };
    }

    private Node both() throws Fault {
      List<Node> all = new ArrayList<>();
      do {
        all.add(plain());
      } while (takes("and"));
      return (s, k) -> {
        for (Node n : all) {
          if (n.ask(s, k) == 0) {
            return 0;
          }
        }
        return 1;
      };
    }

    private Node plain() throws Fault {
      if (takes("not")) {
        Node n = plain();
        return (s, k) -> n.ask(s, k) == 0 ? 1 : 0;
      }
      if (token().equals("(")) {
        must(open < 8);
        at++;
        open++;
        Node n = test();
        must(takes(")"));
        open--;
        return n;
      }
      Node a = sum();
      String sign = token();
      must(takes("<") || takes(">") || takes("="));
      Node b = sum();
      return (s, k) -> {
        int c = Long.compare(a.ask(s, k), b.ask(s, k));
        return (sign.equals("<") ? c < 0 : sign.equals(">") ? c > 0 : c == 0) ? 1 : 0;
      };
    }

    private Node sum() throws Fault {
      Node all = term();
      while (token().equals("+") || token().equals("-")) {
        String sign = tokens.get(at++);
        all = joined(all, sign, term());
      }
      return all;
    }

    private Node term() throws Fault {
      Node all = part();
      while (token().equals("*") || token().equals("/") || token().equals("%")) {
        String sign = tokens.get(at++);
        all = joined(all, sign, part());
      }
      return all;
    }

    private static Node joined(Node a, String sign, Node b) {
      return (s, k) -> {
        BigInteger x = BigInteger.valueOf(a.ask(s, k));
        BigInteger y = BigInteger.valueOf(b.ask(s, k));
        if ((sign.equals("/") || sign.equals("%")) && y.signum() == 0) {
          throw new Broken();
        }
        BigInteger got;
        switch (sign) {
          case "+": got = x.add(y); break;
          case "-": got = x.subtract(y); break;
          case "*": got = x.multiply(y); break;
          case "/": got = x.divide(y); break;
          default: got = x.remainder(y);
        }
        if (got.abs().compareTo(BigInteger.valueOf(1_000_000_000)) > 0) {
          throw new Broken();
        }
        return got.longValueExact();
      };
    }

    private Node part() throws Fault {
      String t = token();
      if (t.equals("[")) {
        must(open < 8);
        at++;
        open++;
        Node n = sum();
        must(takes("]"));
        open--;
        return n;
      }
      boolean number = t.matches("[0-9]+");
      must(number || WORDS.contains(t));
      must(parts < 50);
      must(!number || new BigInteger(t).compareTo(BigInteger.valueOf(1000)) <= 0);
      parts++;
      at++;
      if (number) {
        long value = Long.parseLong(new BigInteger(t).toString());
        return (s, k) -> value;
      }
      return (s, k) -> word(t, s, k);
    }

    private static long word(String t, int s, Kept k) {
      List<Integer> lit = new ArrayList<>();
      for (int lamp = 0; lamp < k.n; lamp++) {
        if ((s >> lamp & 1) == 1) {
          lit.add(lamp);
        }
      }
      switch (t) {
        case "state": return s;
        case "lit": return lit.size();
        case "sum": return lit.stream().mapToInt(l -> l + 1).sum();
        case "mix": return lit.stream().mapToInt(l -> l + 1).reduce(0, (a, b) -> a ^ b);
        case "first": return lit.isEmpty() ? -1 : lit.get(0);
        case "last": return lit.isEmpty() ? -1 : lit.get(lit.size() - 1);
        case "lamps": return k.n;
        default: return k.k;
      }
    }
  }
}
