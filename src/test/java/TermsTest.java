/** The boundary cases of terms I and III: LAMPS, OIL, STATES, NEWS; sending, LASTING, MEAN, CODES. */
public final class TermsTest {
  private static final int NONE = Counted.NONE;

  public static void main(String[] args) {
    for (int n = 1; n <= 8; n++) {
      soManyLamps(n);
      lastStateOfARow(n);
      countedDown(n);
    }
    for (int k = 2; k <= 8; k++) {
      soManyNews(k);
      soManyNewsAreSent(k);
    }
    oils();
    allBroken();
    brokenAndLit();
    sentByNone();
    unreadStates();
    fewestLamps();
    leastOil();
    mostLasting();
    greatestMean();
    meansOfTwo();
    reachedStates();
    failingRows();
    codes();
    made();
    Due.close();
  }

  private static Counted coast(int lamps, int news) {
    Counted x = new Counted();
    x.lamps(lamps);
    x.news(news);
    return x;
  }

  private static Counted coast(int lamps, int news, String law) {
    Counted x = coast(lamps, news);
    Due.law(x, law);
    x.learn(0);
    return x;
  }

  /** The last LAMP and STATE there are, and the first that there are not. */
  private static void soManyLamps(int n) {
    Counted x = new Counted();
    String of = " of " + n + " lamps";
    Due.is("lamps" + of, x.lamps(n), 3);
    Due.is("count" + of, x.count(0), n);
    int last = (1 << n) - 1;
    Due.is("oil of the last" + of, x.oil(n - 1, 99), 1);
    Due.is("oil of none" + of, x.oil(n, 99), -1);
    Due.is("broken, the last" + of, x.broken(n - 1, 0), 0);
    Due.is("broken, none" + of, x.broken(n, 0), -1);
    Due.is("read the last" + of, x.read(last, 3), NONE);
    Due.is("read the last, status" + of, x.status(), 0);
    Due.is("read none" + of, x.read(last + 1, 3), -1);
    Due.is("status" + of, x.status(), -1);
    Due.is("refusals" + of, x.count(7), 3);
    Due.is("of the last" + of, x.of(last), 3);
    Due.is("of none" + of, x.of(last + 1), NONE);
    Due.is("count read" + of, x.count(3), 1);
    Due.is("next to the last" + of, x.next(0, 3, 0), last);
    Due.is("next from the last" + of, x.next(last, 3, 0), last);
    Due.is("next from none" + of, x.next(last + 1, 3, 0), NONE);
    Due.is("ways" + of, x.ways(last, 3), 1);
    Due.is("ways from none" + of, x.ways(last + 1, 3), NONE);
    Due.is("lasts" + of, x.lasts(last), 0);
    Due.is("lasts of none" + of, x.lasts(last + 1), NONE);
    Due.is("mean" + of, x.mean(last, 1), 3);
    Due.is("mean of none" + of, x.mean(last + 1, 1), NONE);
    Due.is("reached" + of, x.reached(last), 1);
    Due.is("reached, none" + of, x.reached(last + 1), NONE);
    Due.is("reached, many" + of, x.reached(NONE), 2);
    Due.is("hurts" + of, x.hurts(n - 1), 0);
    Due.is("hurts, none" + of, x.hurts(n), NONE);
    Due.is("rows" + of, x.rows(1, last, 0), 1);
    Due.is("rows to none" + of, x.rows(1, last + 1, 0), NONE);
    Due.is("could" + of, x.could(1, last, 0, 0, 3), 1);
    Due.is("could to none" + of, x.could(1, last + 1, 0, 0, 3), NONE);
    Due.is("maybe" + of, x.maybe(last, 0), 8);
    Due.is("maybe of none" + of, x.maybe(last + 1, 0), NONE);
    Due.is("maybe, all but one missed" + of, x.maybe(0, n - 1), 0);
    Due.is("maybe, all missed" + of, x.maybe(0, n), 8);
    Due.is("spy" + of, x.spy(n), 8);
    Due.is("spy, fewer" + of, x.spy(n - 1), 0);
    Due.is("spy, more" + of, x.spy(n + 1), NONE);
    Due.is("send" + of, x.send(3, 0), n);
    Due.is("log" + of, x.log(0), last);
    Due.is("burnt" + of, x.burnt(), 99 + n - 1);
    Due.is("dawn" + of, x.dawn(), n);
    Due.trail(x, last);
    Due.is("judge" + of, x.judge(0), NONE);
    Due.trail(x, last + 1);
    Due.is("judge, none" + of, x.judge(0), 0);
  }

  private static void lastStateOfARow(int n) {
    int states = 1 << n;
    for (int more = -1; more <= 1; more++) {
      Counted x = coast(n, 8);
      int[] row = new int[states + more];
      row[Math.min(states, row.length) - 1] = 7;
      Due.is("row of " + n + " lamps and " + more, Due.code(x, row), Math.min(states, states + more));
      Due.is("torn of " + n + " lamps and " + more, x.torn(), Math.max(0, more));
      Due.is("the last of the row", x.of(Math.min(states, row.length) - 1), 7);
      Due.is("the last state of " + n, x.of(states - 1), more < 0 ? NONE : 7);
    }
  }

  /** Two NEWS, one more LAMP for each: as LASTING as can be, from all LAMPS down to none. */
  private static void countedDown(int n) {
    Counted x = coast(n, 2, "reads lit%2");
    int last = (1 << n) - 1;
    Due.is("lasts as long as can be", x.lasts(0), n);
    Due.is("lasts one less", x.lasts(1), n - 1);
    Due.is("lasts no more", x.lasts(last), 0);
    Due.is("means all", x.mean(0, 0), 2 * n + 1);
    Due.is("means all, lower", x.mean(0, 1), 1);
    Due.is("means the last", x.mean(last, 0), 1);
    Due.is("failing", x.failing(NONE), n + 1);
    Due.is("failing first", x.failing(0), 1);
    Due.is("failing last", x.failing(n), (n + 1) % 2);
    Due.is("failing behind", x.failing(n + 1), NONE);
    Due.is("hurts", x.hurts(n - 1), n - 1);
    Due.is("reached", x.reached(NONE), last + 1);
    Due.is("safe", x.safe(), 0);
  }

  private static void soManyNews(int k) {
    Counted x = new Counted();
    String of = " of " + k + " news";
    Due.is("news" + of, x.news(k), 4);
    Due.is("count" + of, x.count(1), k);
    Due.is("read" + of, x.read(0, k - 1), NONE);
    Due.is("read, status" + of, x.status(), 0);
    Due.is("read none" + of, x.read(0, k), -1);
    Due.is("read none, status" + of, x.status(), -1);
    Due.is("of" + of, x.of(0), k - 1);
    Due.is("next" + of, x.next(0, k - 1, 0), 0);
    Due.is("next, none" + of, x.next(0, k, 0), NONE);
    Due.is("ways" + of, x.ways(0, k - 1), 1);
    Due.is("ways, none" + of, x.ways(0, k), NONE);
    Due.is("maybe" + of, x.maybe(0, 0), 1 << (k - 1));
    Due.is("spy" + of, x.spy(0), 1 << (k - 1));
    Due.is("send" + of, x.send(k - 1, 0), 0);
    Due.is("send, status" + of, x.status(), 0);
    Due.is("send none" + of, x.send(k, 0), -1);
    Due.is("want" + of, x.want(k - 1), 1);
    Due.is("want none" + of, x.want(k), -1);
    Due.is("refusals" + of, x.count(7), 3);
    Due.is("could" + of, x.could(1, 0, 0, 0, k - 1), 0);
    Due.is("could, none" + of, x.could(1, 0, 0, 0, k), NONE);
    Due.is("mean" + of, x.mean(0, 0), 1);
    Due.is("mean, lower" + of, x.mean(0, 1), k - 1);
    Due.is("row" + of, Due.code(x, k - 1, k, 255, 0), 2);
    Due.is("row, the last" + of, x.of(0), k - 1);
    Due.is("row, none" + of, x.of(1), NONE);
    Due.is("row, the highest byte" + of, x.of(2), NONE);
    Due.is("row, the first" + of, x.of(3), 0);
  }

  /** One LAMP for each NEWS but the DARK's: each can be SENT once. */
  private static void soManyNewsAreSent(int k) {
    Counted x = coast(8, k, "reads last+1 if last+1<news");
    for (int news = 1; news < k; news++) {
      Due.is("next " + news + " of " + k, x.next(0, news, 3), 1 << (news - 1));
    }
    Due.is("lasts of " + k, x.lasts(0), 1);
    // Behind any of them the DARK's 0 can't be SENT any more.
    Due.is("failing of " + k, x.failing(NONE), 2);
    Due.is("failing of " + k + ", first", x.failing(0), 1);
    Due.is("failing of " + k + ", last", x.failing(1), 0);
    Due.is("reached of " + k, x.reached(NONE), 1 << (k - 1));
  }

  private static void oils() {
    Counted x = coast(8, 2, "reads lit/8");
    for (int lamp = 0; lamp < 8; lamp++) {
      Due.is("oil at first", x.oil(lamp, 99), 1);
      Due.is("the most oil", x.oil(lamp, 99), 99);
    }
    Due.is("send all", x.send(1, 1), 8);
    Due.is("the most burnt", x.burnt(), 792);
    x.want(1);
    Due.is("the most oil for what is wanted", x.cheap(0), 792);
    for (int lamp = 0; lamp < 8; lamp++) {
      Due.is("down to none", x.oil(lamp, 0), 99);
      Due.is("no oil", x.oil(lamp, 0), 0);
    }
    Due.is("none burnt", x.burnt(), 0);
    Due.is("no oil for what is wanted", x.cheap(0), 0);
    Due.is("and yet a way", x.plan(0), 255);
    Due.is("not refused", x.count(7), 0);
  }

  private static void allBroken() {
    Counted x = coast(8, 2, "reads lit%2");
    for (int lamp = 0; lamp < 8; lamp++) {
      Due.is("broken at first", x.broken(lamp, 1), 0);
    }
    Due.is("what is read already", x.send(0, 0), 0);
    Due.is("nothing else", x.send(1, 0), -3);
    Due.is("from any state what is read", x.next(7, 1, 2), 7);
    Due.is("from any state nothing else", x.next(7, 0, 2), NONE);
    Due.is("ways of what is read", x.ways(7, 1), 1);
    Due.is("lasts", x.lasts(0), 0);
    Due.is("mean", x.mean(0, 0), 1);
    Due.is("mean, lower", x.mean(0, 1), 1);
    Due.is("reached", x.reached(NONE), 1);
    Due.is("failing", x.failing(NONE), 1);
    Due.is("failing, the other", x.failing(0), 1);
    Due.is("hurts no more", x.hurts(0), 0);
    Due.is("safe", x.safe(), 8);
    Due.is("spy", x.spy(1), 0);
    Due.is("maybe", x.maybe(0, 8), 1);
    Due.is("night", x.night(0, 24, 0), 0);
    Due.is("unsent", x.drawn(NONE), 1);
    x.want(0);
    Due.is("cheap", x.cheap(0), 0);
    x.want(1);
    Due.is("can't", x.cheap(0), NONE);
    Due.is("no way", x.cheap(1), 0);
    Due.is("still codes", x.codes(1, 2, 1), 2);
  }

  /** A LAMP that is lit and then BROKEN stays lit, and what is lit need not be lit. */
  private static void brokenAndLit() {
    Counted x = coast(3, 2, "reads lit%2");
    x.send(1, 0);
    Due.is("the first is lit", x.log(NONE), 1);
    x.broken(0, 1);
    Due.is("from what is lit", x.send(0, 0), 1);
    Due.is("it stays lit", x.log(NONE), 3);
    Due.is("burnt", x.burnt(), 2);
    Due.is("from the dark it is not", x.reached(3), 0);
    Due.is("lasts from what is lit", x.lasts(1), 2);
    Due.is("lasts from the dark", x.lasts(0), 2);
    Due.is("next from the dark", x.next(0, 1, 0), 2);
    Due.trail(x, 1);
    Due.is("judged", x.judge(0), 0);
    Due.trail(x, 2, 6);
    Due.is("judged around it", x.judge(0), NONE);
    Due.is("dawn", x.dawn(), 2);
    Due.is("then not", x.send(1, 0), 1);
    Due.is("another", x.log(NONE), 2);
  }

  /** By no LAMPS only if it is READ as that already. */
  private static void sentByNone() {
    Counted x = coast(2, 2);
    Due.code(x, 0, 0, 1, 9);
    for (int manner = 0; manner < 4; manner++) {
      Due.is("itself", x.next(0, 0, manner), 0);
      Due.is("more", x.next(0, 1, manner), 2);
      Due.is("full and unread", x.next(3, 0, manner), NONE);
      Due.is("full and unread, the other", x.next(3, 1, manner), NONE);
      Due.is("nothing above", x.next(1, 1, manner), NONE);
    }
    Due.is("ways", x.ways(0, 0), 2);
    Due.is("ways, full", x.ways(3, 0), 0);
    Due.is("a send by none", x.send(0, 3), 0);
    Due.is("is logged", x.log(0), 0);
    Due.is("and counted", x.count(4), 1);
  }

  /** From a STATE that is not READ each of the NEWS is another. */
  private static void unreadStates() {
    Counted x = coast(1, 2);
    Due.code(x, 9, 0);
    Due.is("not all news", x.lasts(0), 0);
    Due.is("mean", x.mean(0, 0), 1);
    Due.is("mean, lower", x.mean(0, 1), 1);
    Due.is("failing", x.failing(NONE), 1);
    Due.is("failing, the other", x.failing(0), 1);
    Due.is("rows", x.rows(1, 1, 0), 1);
    Counted y = coast(2, 2);
    Due.code(y, 9, 0, 1, 0);
    Due.is("all news", y.lasts(0), 1);
    // 0 by 1 (then 0 for ever: mean 1), 1 by 2 (then 0 by 3: 1 + 1 + 1): (1 + 1 + 1 + 3) / 2.
    Due.is("mean of two", y.mean(0, 0), 3);
    Due.is("mean of two, lower", y.mean(0, 1), 1);
    Due.is("failing of two", y.failing(NONE), 2);
    Due.is("failing of two, first", y.failing(0), 0);
    Due.is("failing of two, last", y.failing(1), 1);
    Due.is("no code at all", coast(8, 8).lasts(0), 0);
    Due.is("no code at all, mean", coast(8, 8).mean(0, 0), 0);
    Due.is("no code at all, lower", coast(8, 8).mean(0, 1), 1);
  }

  private static void fewestLamps() {
    Counted x = coast(3, 2);
    Due.code(x, 0, 9, 9, 1, 1, 9, 9, 0);
    Due.is("the fewest, not the lowest", x.next(0, 1, 0), 4);
    Due.code(x, 0, 9, 1, 9, 1, 9, 9, 0);
    Due.is("of alike ones the lowest", x.next(0, 1, 0), 2);
    x.oil(1, 99);
    Due.is("whatever the oil", x.next(0, 1, 0), 2);
  }

  private static void leastOil() {
    Counted x = coast(3, 2);
    Due.code(x, 0, 9, 9, 1, 1, 9, 9, 0);
    Due.is("fewer lamps are less oil", x.next(0, 1, 1), 4);
    x.oil(2, 2);
    Due.is("of alike ones the lowest, not the fewest", x.next(0, 1, 1), 3);
    x.oil(2, 1);
    x.oil(0, 0);
    Due.is("and again", x.next(0, 1, 1), 3);
    x.oil(0, 1);
    Due.is("less again", x.next(0, 1, 1), 4);
    for (int lamp = 0; lamp < 3; lamp++) {
      x.oil(lamp, 0);
    }
    Due.is("no oil at all: the lowest", x.next(0, 1, 1), 3);
    x.oil(2, 99);
    Due.is("the most oil", x.next(0, 1, 1), 3);
    x.oil(0, 50);
    x.oil(1, 50);
    Due.is("one less", x.next(0, 1, 1), 4);
    Due.is("more oil than is lit: of what is lit none", x.next(4, 0, 1), 7);
  }

  private static void mostLasting() {
    Counted x = coast(4, 2);
    // 1 by 1 (then nothing), by 6 or 10 (then 0 by 14), by 12 (0 by 14).
    Due.code(x, 0, 1, 9, 9, 9, 9, 1, 9, 9, 9, 1, 9, 1, 9, 0, 9);
    Due.is("the most lasting", x.next(0, 1, 2), 6);
    Due.is("the greatest mean", x.next(0, 1, 3), 6);
    x.read(6, NONE);
    Due.is("then the next", x.next(0, 1, 2), 10);
    x.read(14, NONE);
    Due.is("all alike: the fewest lamps", x.next(0, 1, 2), 1);
    x.read(1, NONE);
    x.read(8, 1);
    Due.is("all alike: the fewest, not the lowest", x.next(0, 1, 2), 8);
    x.read(2, 1);
    Due.is("as few: the lowest", x.next(0, 1, 2), 2);
    x.broken(1, 1);
    Due.is("but none that is broken", x.next(0, 1, 2), 8);
  }

  private static void greatestMean() {
    Counted x = coast(3, 3);
    // 1 by 3 or 4: from both 2 by 7 alone, so the same MEAN, but 4 has fewer LAMPS.
    Due.code(x, 0, 9, 9, 1, 1, 9, 9, 2);
    Due.is("of alike means the lowest", x.next(0, 1, 3), 3);
    Due.is("of alike lasting the fewest", x.next(0, 1, 2), 4);
    // Now 0 by 6 from 4, but not from 3.
    x.read(6, 0);
    Due.is("a greater mean", x.next(0, 1, 3), 4);
    // 2 by 7 alone: (1 + 1 + 1/2) / 2 = 5/4, and so is 6, which 0 from 4 leads to.
    Due.is("mean of 3", x.mean(3, 0), 5);
    Due.is("mean of 3, lower", x.mean(3, 1), 4);
    // (1 + (1 + 5/4) + (1 + 1/2)) / 2 = 19/8
    Due.is("mean of 4", x.mean(4, 0), 19);
    Due.is("mean of 4, lower", x.mean(4, 1), 8);
    Due.is("mean of 7", x.mean(7, 0), 1);
    Due.is("mean of 7, lower", x.mean(7, 1), 2);
  }

  /** Upper and lower number have no common divisor, the lower is 1 for whole ones. */
  private static void meansOfTwo() {
    Counted x = coast(1, 3);
    Due.code(x, 0, 1);
    // Full: 1/2. DARK: (1 + 1 + 1/2) / 2.
    Due.is("upper", x.mean(0, 0), 5);
    Due.is("lower", x.mean(0, 1), 4);
    Due.code(x, 0, 0);
    Due.is("only itself, upper", x.mean(0, 0), 1);
    Due.is("only itself, lower", x.mean(0, 1), 2);
    Due.code(x, 9, 2);
    // (1 + 1/2) / 3
    Due.is("of an unread dark, upper", x.mean(0, 0), 1);
    Due.is("of an unread dark, lower", x.mean(0, 1), 2);
    Counted y = coast(8, 8, "reads lit%8");
    Due.is("of the full state, upper", y.mean(255, 0), 1);
    Due.is("of the full state, lower", y.mean(255, 1), 7);
    // Seven lit: itself, and 0 by the last LAMP: (1 + 1 + 1/7) / 7.
    Due.is("of the last but one, upper", y.mean(127, 0), 15);
    Due.is("of the last but one, lower", y.mean(127, 1), 49);
    meansByCounting();
    meansAgain();
    Counted z = coast(2, 2, "reads 0");
    Due.is("whole, upper", z.mean(0, 0), 1);
    Due.is("whole, lower", z.mean(0, 1), 1);
  }

  /** NEWS by how many LAMPS are lit: as few more as can be is best, so each MEAN comes from those above. */
  private static void meansByCounting() {
    Counted x = coast(8, 3, "reads lit%3");
    long[] upper = {4267, 1877, 811, 341, 139, 53, 19, 5, 1};
    for (int lit = 0; lit <= 8; lit++) {
      Due.is("three news, upper, lit " + lit, x.mean((1 << lit) - 1, 0), upper[lit]);
      Due.is("three news, lower, lit " + lit, x.mean((1 << lit) - 1, 1), 1 << (9 - lit));
    }
    Counted y = coast(8, 8, "reads lit%8");
    long[] above = new long[9];
    long below = 1;
    // M = (1 + each of those above and 1) / 7, all of them over the same power of 7.
    for (int lit = 8; lit >= 0; lit--) {
      long together = below;
      for (int then = lit + 1; then <= Math.min(8, lit + 7); then++) {
        together += above[then] + below;
      }
      for (int then = lit + 1; then <= 8; then++) {
        above[then] *= 7;
      }
      below *= 7;
      above[lit] = together;
      Due.is("eight news, upper, lit " + lit, y.mean((1 << lit) - 1, 0), together);
      Due.is("eight news, lower, lit " + lit, y.mean((1 << lit) - 1, 1), below);
    }
  }

  /** A MEAN does not hang on how often it was asked. */
  private static void meansAgain() {
    Counted x = coast(3, 8, "reads lit");
    for (int i = 0; i < 40; i++) {
      x.read(7, 3 + i % 2);
      Due.is("again, upper", x.mean(7, 0), 1);
      Due.is("again, lower", x.mean(7, 1), 7);
      // Two lit, one more can be: (1 + 1 + 1/7) / 7.
      Due.is("again, above, upper", x.mean(3, 0), 15);
      Due.is("again, above, lower", x.mean(3, 1), 49);
    }
  }

  private static void reachedStates() {
    Counted x = coast(3, 2);
    Due.is("the dark, unread", x.reached(0), 1);
    Due.is("the dark alone", x.reached(NONE), 1);
    Due.is("unread", x.reached(7), 0);
    x.read(7, 0);
    Due.is("by three lamps at once", x.reached(7), 1);
    Due.is("two", x.reached(NONE), 2);
    x.read(0, 1);
    Due.is("the dark is not counted twice", x.reached(NONE), 2);
    x.broken(2, 1);
    Due.is("broken", x.reached(7), 0);
    x.broken(2, 0);
    x.send(0, 0);
    Due.is("the dark, though all is lit", x.reached(0), 1);
    Due.is("all", coast(8, 8, "reads lit%8").reached(NONE), 256);
  }

  private static void failingRows() {
    Counted x = coast(3, 3);
    // From the DARK (0): 1 by 1 or 6, 2 by 2; from 1 and 2 to 7 (0); from 2 to 6 (1), too.
    Due.code(x, 0, 1, 2, 9, 9, 9, 1, 0);
    Due.is("many", x.failing(NONE), 2);
    Due.is("the lowest of those that last least", x.failing(0), 1);
    Due.is("that for which there is none", x.failing(1), 2);
    x.read(2, NONE);
    Due.is("at once", x.failing(NONE), 1);
    Due.is("none is less than least", x.failing(0), 2);
    Due.is("behind it", x.failing(1), NONE);
    x.read(0, NONE);
    Due.is("unread: none for 2", x.failing(0), 2);
    x.read(7, 2);
    Due.is("unread: none for 0", x.failing(0), 0);
    Due.is("and no more", x.failing(NONE), 1);
  }

  private static void codes() {
    int[][] all = {{4, 9, 16}, {16, 81, 256}, {256, 6561, 65536}};
    int[][] once = {{2, 0, 0}, {14, 36, 24}, {254, 5796, 40824}};
    Counted x = new Counted();
    for (int n = 1; n <= 3; n++) {
      for (int k = 2; k <= 4; k++) {
        String of = " of " + n + " lamps, " + k + " news";
        Due.is("all" + of, x.codes(n, k, 0), all[n - 1][k - 2]);
        Due.is("once" + of, x.codes(n, k, 1), once[n - 1][k - 2]);
        for (int t = n + 1; t <= 8; t++) {
          Due.is(t + " times" + of, x.codes(n, k, t), 0);
        }
        Due.is("nine times" + of, x.codes(n, k, 9), NONE);
        Due.is("less than none" + of, x.codes(n, k, -1), NONE);
      }
    }
    Due.is("twice, two lamps", x.codes(2, 2, 2), 6);
    // All but those where what is READ as the other NEWS is so whatever is lit besides.
    Due.is("twice, three lamps", x.codes(3, 2, 2), 218);
    // One LAMP, two, three in turn: by each of the DARK's NEWS 64 less 18.
    Due.is("thrice, three lamps", x.codes(3, 2, 3), 92);
    Due.is("not refused", x.status(), 0);
    Due.is("the coast stays", x.count(0), 3);
    Due.is("the code stays", x.count(3), 0);
  }

  private static void madeOf(int n, int k, int t, int... due) {
    Counted x = coast(n, k);
    String of = " of " + n + ", " + k + ", " + t;
    if (due.length == 0) {
      Due.is("make" + of, x.make(n, k, t), -3);
      Due.is("status" + of, x.status(), -3);
      Due.is("none read" + of, x.count(3), 0);
      return;
    }
    Due.is("make" + of, x.make(n, k, t), 0);
    Due.is("status" + of, x.status(), 0);
    Due.is("all read" + of, x.count(3), 1 << n);
    Due.so("lasts" + of, x.lasts(0) >= t);
    for (int state = 0; state < due.length; state++) {
      Due.is("of " + state + of, x.of(state), due[state]);
    }
  }

  private static void made() {
    madeOf(1, 2, 0, 0, 0);
    madeOf(1, 2, 1, 0, 1);
    madeOf(1, 2, 2);
    madeOf(1, 3, 1);
    madeOf(1, 4, 0, 0, 0);
    madeOf(2, 2, 1, 0, 0, 0, 1);
    madeOf(2, 2, 2, 0, 0, 1, 0);
    madeOf(2, 2, 3);
    madeOf(2, 3, 1, 0, 0, 1, 2);
    madeOf(2, 4, 1, 0, 1, 2, 3);
    madeOf(2, 4, 2);
    madeOf(3, 2, 1, 0, 0, 0, 0, 0, 0, 0, 1);
    // 1 by two LAMPS and 0 by all of them, or by one and 0 by two: the first puts 1 last.
    madeOf(3, 2, 2, 0, 0, 0, 0, 0, 0, 1, 0);
    // By one, two, three: 7 is 1, and the highest single with a pair above it that is 0.
    madeOf(3, 2, 3, 0, 0, 0, 0, 1, 0, 0, 1);
    madeOf(3, 2, 4);
    madeOf(3, 2, 8);
    madeOf(3, 3, 0, 0, 0, 0, 0, 0, 0, 0, 0);
    madeOf(3, 3, 1, 0, 0, 0, 0, 0, 0, 1, 2);
    madeOf(3, 4, 1, 0, 0, 0, 0, 0, 1, 2, 3);
    madeOf(3, 4, 0, 0, 0, 0, 0, 0, 0, 0, 0);
    madeOf(3, 4, 3);
  }
}
