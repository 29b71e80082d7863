import java.util.Random;

/** Random runs of calls; each answer of LitCoast is compared with that of PlainCoast. */
public final class ModelTest {
  private static final int RUNS = Integer.getInteger("runs", 500);
  private static final int MOST_ASKED = 32;
  /** So that what is begun then ends ahead of the 512th call. */
  private static final int CALLS = 512 - 48 - MOST_ASKED;

  private final Random r;
  private final Counted x = new Counted();
  private final PlainCoast p = new PlainCoast();
  private final int most;
  private final StringBuilder calls = new StringBuilder();
  private final int run;
  private int made;
  private boolean failed;

  private ModelTest(int run) {
    this.run = run;
    r = new Random(Long.getLong("seed", 20261118L) * 1000003 + run);
    most = run % 8 == 0 ? 8 : run % 8 < 3 ? 5 : 3;
  }

  public static void main(String[] args) {
    for (int run = 0; run < RUNS; run++) {
      new ModelTest(run).go();
    }
    Due.close();
  }

  private void go() {
    if (most > 3) {
      int n = 1 + r.nextInt(most);
      same("lamps(" + n + ")", x.lamps(n), p.lamps(n));
      int k = 2 + r.nextInt(7);
      same("news(" + k + ")", x.news(k), p.news(k));
    }
    while (made < CALLS && !failed) {
      if (r.nextInt(100) < (made < 20 ? 50 : 12)) {
        tell();
      } else {
        call();
      }
    }
  }

  private void same(String call, long got, long due) {
    made++;
    calls.append(call).append(" -> ").append(got).append('\n');
    if (got != due) {
      Due.is("run " + run + " call " + made + ": " + call, got, due);
      System.out.println(calls);
      failed = true;
    } else {
      Due.is("", 0, 0);
    }
  }

  private int near(int low, int high) {
    return r.nextInt(25) == 0 ? odd(low, high) : low + r.nextInt(high - low + 1);
  }

  private int odd(int low, int high) {
    int[] odds = {low - 1, high + 1, low - 2, high + 2, Integer.MIN_VALUE, Integer.MAX_VALUE, 255, 256};
    return odds[r.nextInt(odds.length)];
  }

  private int state() {
    return near(0, (1 << p.now.n) - 1);
  }

  private int lamp() {
    return near(0, p.now.n - 1);
  }

  private int news() {
    return near(0, p.now.k - 1);
  }

  private int manner() {
    return near(0, 3);
  }

  /** Something on the TAPE and then taken from it. */
  private void tell() {
    switch (r.nextInt(6)) {
      case 0: case 1:
        put(lawText());
        same("law()", x.law(), p.law());
        same("fault()", x.fault(), p.fault);
        if (p.now.laws.size() > 0) {
          int law = p.now.laws.size() - 1;
          same("learn(" + law + ")", x.learn(law), p.learn(law));
          allOf();
        }
        break;
      case 2: case 3:
        put(rowText());
        same("row()", x.row(), p.row());
        same("torn()", x.torn(), p.torn);
        break;
      default:
        put(trailText());
        same("trail()", x.trail(), p.trail());
        for (int m = 0; m < 4; m++) {
          same("judge(" + m + ")", x.judge(m), p.judge(m));
        }
    }
  }

  /** As what STATES are READ now: all of them, or as many as there are calls for. */
  private void allOf() {
    int states = 1 << p.now.n;
    int from = states > MOST_ASKED ? r.nextInt(states - MOST_ASKED + 1) : 0;
    for (int s = from; s < Math.min(states, from + MOST_ASKED) && !failed; s++) {
      same("of(" + s + ")", x.of(s), p.of(s));
    }
  }

  private void put(String text) {
    for (int at = 0; at < text.length(); at += 20) {
      int before = p.count(6);
      int[] five = new int[5];
      for (int i = 0; i < 20 && at + i < text.length(); i++) {
        five[i / 4] |= text.charAt(at + i) << (24 - 8 * (i % 4));
      }
      same("feed(" + five[0] + ", " + five[1] + ", " + five[2] + ", " + five[3] + ", " + five[4] + ")",
          x.feed(five[0], five[1], five[2], five[3], five[4]),
          p.feed(five[0], five[1], five[2], five[3], five[4]));
      int end = before + Math.min(20, text.length() - at);
      same("end(" + end + ")", x.end(end), p.end(end));
    }
  }

  private String rowText() {
    int many = r.nextInt(8) == 0 ? r.nextInt(300) : 1 << p.now.n;
    int gaps = r.nextInt(3) == 0 ? r.nextInt(100) : 0;
    StringBuilder row = new StringBuilder();
    int kind = r.nextInt(4);
    for (int s = 0; s < many; s++) {
      int news = kind == 0 ? Integer.bitCount(s) % p.now.k : r.nextInt(p.now.k);
      row.append((char) (r.nextInt(100) < gaps ? p.now.k + r.nextInt(256 - p.now.k) : news));
    }
    return row.toString();
  }

  /** Mostly what a KEEPER would have lit. */
  private String trailText() {
    StringBuilder row = new StringBuilder();
    int s = 0;
    int manner = r.nextInt(4);
    int many = r.nextInt(40);
    for (int i = 0; i < many; i++) {
      int to = p.next(s, r.nextInt(p.now.k), manner);
      s = to == PlainCoast.NONE ? s : to;
      s = r.nextInt(30) == 0 ? r.nextInt(256) : s;
      row.append((char) s);
    }
    return row.toString();
  }

  private String lawText() {
    StringBuilder text = new StringBuilder();
    int clauses = r.nextInt(6) == 0 ? 10 + r.nextInt(5) : 1 + r.nextInt(3);
    for (int c = 0; c < clauses; c++) {
      text.append(c == 0 ? "" : ";").append(blank()).append("reads ").append(sum(3));
      if (r.nextInt(3) > 0) {
        text.append(blank()).append(" if ").append(test(3));
      }
    }
    if (r.nextInt(8) == 0) {
      deepen(text);
    }
    if (r.nextInt(3) == 0) {
      spoil(text);
    }
    text.setLength(Math.min(text.length(), 400));
    return text.toString();
  }

  private void deepen(StringBuilder text) {
    int many = 6 + r.nextInt(5);
    boolean sum = r.nextBoolean();
    StringBuilder deep = new StringBuilder(sum ? "reads " : "reads 1 if ");
    for (int i = 0; i < many; i++) {
      deep.append(sum ? "[" : i < many / 2 ? "(" : "[");
    }
    deep.append("lit");
    for (int i = many - 1; i >= 0; i--) {
      deep.append(sum ? "]" : i < many / 2 ? (i == many / 2 - 1 ? "=1)" : ")") : "]");
    }
    text.insert(0, deep.append(";"));
  }

  private void spoil(StringBuilder text) {
    String[] bits = {" ", "reads", "if", "or", "and", "not", "(", ")", "[", "]", "+", "-", "*", "/", "%",
        "<", ">", "=", ";", "1000", "1001", "x", "A", "state", "lit", "first", "0", "\u00e9", "\t", "\0",
        "+1+1+1+1+1+1+1+1+1+1+1+1+1+1+1+1+1+1+1+1+1+1+1+1+1+1+1+1+1+1+1+1+1+1+1+1+1+1+1+1+1+1+1+1"};
    int at = r.nextInt(text.length());
    switch (r.nextInt(3)) {
      case 0: text.insert(at, bits[r.nextInt(bits.length)]); break;
      case 1: text.deleteCharAt(at); break;
      default: text.replace(at, Math.min(text.length(), at + 1 + r.nextInt(4)), bits[r.nextInt(bits.length)]);
    }
  }

  private String blank() {
    return r.nextInt(4) == 0 ? " " : "";
  }

  private String sum(int depth) {
    StringBuilder text = new StringBuilder(term(depth));
    for (int i = r.nextInt(3); i > 1; i--) {
      text.append(blank()).append(r.nextBoolean() ? "+" : "-").append(blank()).append(term(depth));
    }
    return text.toString();
  }

  private String term(int depth) {
    StringBuilder text = new StringBuilder(part(depth));
    for (int i = r.nextInt(4); i > 1; i--) {
      text.append("*/%%".charAt(r.nextInt(4))).append(blank()).append(part(depth));
    }
    return text.toString();
  }

  private String part(int depth) {
    String[] words = {"state", "lit", "sum", "mix", "first", "last", "lamps", "news"};
    int kind = r.nextInt(10);
    if (kind == 0 && depth > 0) {
      return "[" + sum(depth - 1) + "]";
    }
    if (kind < 4) {
      return "" + (r.nextInt(5) == 0 ? 900 + r.nextInt(101) : r.nextInt(9));
    }
    return words[r.nextInt(words.length)];
  }

  private String test(int depth) {
    int kind = r.nextInt(9);
    if (depth > 0 && kind == 0) {
      return test(depth - 1) + " or " + test(depth - 1);
    }
    if (depth > 0 && kind == 1) {
      return test(depth - 1) + " and " + test(depth - 1);
    }
    if (depth > 0 && kind == 2) {
      return "not " + test(depth - 1);
    }
    if (depth > 0 && kind == 3) {
      return "(" + test(depth - 1) + ")";
    }
    return sum(depth - 1) + "<>=".charAt(r.nextInt(3)) + sum(depth - 1);
  }

  private void call() {
    switch (r.nextInt(12)) {
      case 0: case 1: case 2: change(); break;
      case 3: case 4: night(); break;
      case 5: case 6: rows(); break;
      default: ask();
    }
  }

  private void change() {
    int a;
    int b;
    switch (r.nextInt(20)) {
      case 0:
        a = near(1, most);
        if (r.nextInt(3) == 0) {
          same("lamps(" + a + ")", x.lamps(a), p.lamps(a));
        }
        break;
      case 1:
        a = near(2, most == 3 ? 4 : 8);
        if (r.nextInt(3) == 0) {
          same("news(" + a + ")", x.news(a), p.news(a));
        }
        break;
      case 2: case 3: case 4:
        a = lamp();
        b = r.nextInt(3) == 0 ? near(0, 99) : near(0, 3);
        same("oil(" + a + ", " + b + ")", x.oil(a, b), p.oil(a, b));
        break;
      case 5: case 6:
        a = lamp();
        b = r.nextInt(3) > 0 ? 0 : near(0, 1);
        same("broken(" + a + ", " + b + ")", x.broken(a, b), p.broken(a, b));
        break;
      case 7: case 8: case 9: case 10:
        a = state();
        b = r.nextInt(6) == 0 ? -1 : news();
        same("read(" + a + ", " + b + ")", x.read(a, b), p.read(a, b));
        break;
      case 11: case 12:
        a = near(0, 5);
        same("learn(" + a + ")", x.learn(a), p.learn(a));
        break;
      case 13: case 14:
        a = r.nextInt(8) == 0 ? near(1, 3) : p.now.n;
        b = r.nextInt(8) == 0 ? near(2, 4) : p.now.k;
        int t = r.nextInt(3) > 0 ? r.nextInt(3) : near(0, 8);
        same("make(" + a + ", " + b + ", " + t + ")", x.make(a, b, t), p.make(a, b, t));
        break;
      case 15:
        a = near(0, 1);
        same("image(" + a + ")", x.image(a), p.image(a));
        break;
      case 16:
        a = near(0, 1);
        same("back(" + a + ")", x.back(a), p.back(a));
        break;
      case 17:
        a = near(0, 20);
        same("end(" + a + ")", x.end(a), p.end(a));
        break;
      default:
        if (r.nextInt(6) == 0) {
          same("unwant()", x.unwant(), p.unwant());
        } else {
          a = news();
          same("want(" + a + ")", x.want(a), p.want(a));
        }
    }
  }

  private void night() {
    int a;
    int m = manner();
    switch (r.nextInt(10)) {
      case 0: same("dawn()", x.dawn(), p.dawn()); break;
      case 1: a = near(-1, 24); same("log(" + a + ")", x.log(a), p.log(a)); break;
      case 2: same("burnt()", x.burnt(), p.burnt()); break;
      case 3: same("judge(" + m + ")", x.judge(m), p.judge(m)); break;
      case 4: case 5:
        int seed = near(0, 1_000_000);
        int many = near(0, 24);
        same("night(" + seed + ", " + many + ", " + m + ")", x.night(seed, many, m), p.night(seed, many, m));
        for (int i = -1; i <= p.drawn.size(); i++) {
          same("drawn(" + i + ")", x.drawn(i), p.drawn(i));
        }
        break;
      case 6: a = near(-1, 24); same("drawn(" + a + ")", x.drawn(a), p.drawn(a)); break;
      default:
        a = r.nextInt(3) == 0 && p.of(p.now.state) >= 0 ? p.of(p.now.state) : news();
        same("send(" + a + ", " + m + ")", x.send(a, m), p.send(a, m));
        same("log(-1)", x.log(-1), p.log(-1));
    }
  }

  private void rows() {
    int t = near(0, r.nextInt(3) == 0 ? 8 : 3);
    int m = manner();
    int s = state();
    if (r.nextInt(3) > 0 && p.now.n > 0) {
      // A STATE to which some ROW does lead, if one is found.
      s = 0;
      for (int i = 0; i < Math.min(t, 8) && m >= 0 && m < 4; i++) {
        int to = p.next(s, r.nextInt(p.now.k), m);
        s = to < 0 ? s : to;
      }
    }
    if (r.nextBoolean()) {
      same("rows(" + t + ", " + s + ", " + m + ")", x.rows(t, s, m), p.rows(t, s, m));
    } else {
      int j = t > 0 && t < 9 ? near(0, t - 1) : near(0, 1);
      int news = news();
      same("could(" + t + ", " + s + ", " + m + ", " + j + ", " + news + ")",
          x.could(t, s, m, j, news), p.could(t, s, m, j, news));
    }
  }

  private void ask() {
    int a = state();
    int b = news();
    int m = manner();
    int i;
    switch (r.nextInt(22)) {
      case 0: same("of(" + a + ")", x.of(a), p.of(a)); break;
      case 1: case 2: case 3:
        same("next(" + a + ", " + b + ", " + m + ")", x.next(a, b, m), p.next(a, b, m));
        break;
      case 4: same("ways(" + a + ", " + b + ")", x.ways(a, b), p.ways(a, b)); break;
      case 5: case 6: same("lasts(" + a + ")", x.lasts(a), p.lasts(a)); break;
      case 7: case 8:
        i = near(0, 1);
        same("mean(" + a + ", " + i + ")", x.mean(a, i), p.mean(a, i));
        break;
      case 9: i = r.nextBoolean() ? -1 : a; same("reached(" + i + ")", x.reached(i), p.reached(i)); break;
      case 10: i = near(-1, 4); same("failing(" + i + ")", x.failing(i), p.failing(i)); break;
      case 11: i = lamp(); same("hurts(" + i + ")", x.hurts(i), p.hurts(i)); break;
      case 12:
        int n = near(1, 3);
        int k = near(2, n == 3 && run % 5 > 0 ? 3 : 4);
        int t = near(0, r.nextBoolean() ? 3 : 8);
        same("codes(" + n + ", " + k + ", " + t + ")", x.codes(n, k, t), p.codes(n, k, t));
        break;
      case 13: case 14:
        i = near(0, 8);
        same("maybe(" + a + ", " + i + ")", x.maybe(a, i), p.maybe(a, i));
        break;
      case 15:
        if (p.now.n < 7 || r.nextInt(10) == 0) {
          same("safe()", x.safe(), p.safe());
        }
        break;
      case 16: i = near(0, 8); same("spy(" + i + ")", x.spy(i), p.spy(i)); break;
      case 17: i = near(0, 1); same("cheap(" + i + ")", x.cheap(i), p.cheap(i)); break;
      case 18: i = near(0, Math.max(0, p.count(5) - 1)); same("plan(" + i + ")", x.plan(i), p.plan(i)); break;
      case 19: case 20: i = near(0, 12); same("count(" + i + ")", x.count(i), p.count(i)); break;
      default: same("status()", x.status(), p.status);
    }
  }
}
