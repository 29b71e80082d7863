import java.util.function.Consumer;
import java.util.function.ToLongFunction;

/**
 * Every call that is REFUSED, and every one that answers NONE: what it answers, what status() and
 * count(7) to count(11) tell then, and that it changes nothing else. For that two objects are made
 * alike, one of them gets the call besides, and all that can be seen of both is compared.
 */
public final class RefusalsTest {
  private static final int NONE = Counted.NONE;
  private static final int[] BY = {-1, -2, -3, -5, -6};
  private static final int LOW = Integer.MIN_VALUE;
  private static final int HIGH = Integer.MAX_VALUE;

  public static void main(String[] args) {
    richIsRich();
    numbersOfTheCoast();
    numbersOfSending();
    noSuch();
    cantBe();
    noRoom();
    noText();
    orderOfRefusals();
    noneOfTheCode();
    noneOfTheTape();
    noneOfSending();
    noneOfRows();
    noneOfTheRest();
    lawsThatAreRefused();
    questionsChangeNothing();
    callsChangeTheirOwn();
    Due.close();
  }

  /** Something of everything that can stand. */
  private static void rich(Counted x) {
    x.oil(7, 7);
    x.learn(3);
    x.make(1, 2, 1);
    x.row();
    Due.law(x, "reads mix");
    Due.law(x, "reads lit;reads 0 if state=3");
    Due.law(x, "reads 1 x");
    x.learn(0);
    x.oil(1, 5);
    x.want(2);
    x.send(2, 0);
    x.image(1);
    x.oil(0, 7);
    x.broken(2, 1);
    x.send(2, 1);
    x.send(3, 0);
    x.want(3);
    x.want(3);
    Due.code(x, 0, 1, 2, 3, 3, 2, 1, 0, 9, 9);
    Due.trail(x, 1, 3, 2);
    x.night(0, 10, 0);
    Due.tape(x, 3, 2, 1, 7, 0, 0, 1, 2, 3);
  }

  /** That the edges below are the edges. */
  private static void richIsRich() {
    Counted x = new Counted();
    rich(x);
    int[] due = {3, 4, 2, 8, 3, 3, 9, 1, 1, 1, 0, 2, 3};
    for (int what = 0; what < due.length; what++) {
      Due.is("rich: count " + what, x.count(what), due[what]);
    }
    Due.is("rich: log", x.log(2), 3);
    Due.is("rich: plan", x.plan(2), 3);
    Due.is("rich: failing", x.failing(1), 0);
    Due.is("rich: drawn", x.drawn(3), 1);
    Due.is("rich: unsent", x.drawn(NONE), 0);
    Due.is("rich: fault", x.fault(), 8);
    Due.is("rich: torn", x.torn(), 2);
    Counted y = new Counted();
    full(y);
    int[] dueFull = {8, 8, 6, 256, 24, 16, 400, 0, 0, 0, 0, 0, 30};
    for (int what = 0; what < dueFull.length; what++) {
      Due.is("full: count " + what, y.count(what), dueFull[what]);
    }
    Due.is("full: log", y.log(23), 127);
    Due.is("full: plan", y.plan(15), 254);
  }

  /** As much as there can be of everything. */
  private static void full(Counted x) {
    x.lamps(8);
    x.news(8);
    for (int i = 0; i < 6; i++) {
      Due.law(x, "reads [lit+" + i + "]%8");
    }
    x.learn(0);
    for (int i = 0; i < 8; i++) {
      x.oil(i, 99 - i);
    }
    for (int i = 0; i < 24; i++) {
      x.send(i / 3, 2);
    }
    for (int i = 0; i < 16; i++) {
      x.want(i / 2);
    }
    x.image(0);
    x.image(1);
    Due.tape(x, new int[400]);
    x.trail();
    x.night(1_000_000, 24, 3);
    Due.tape(x, new int[400]);
  }

  private static void fresh(Counted x) {
  }

  private static void refused(String call, int by, ToLongFunction<Counted> made) {
    refusedOf("rich", RefusalsTest::rich, call, by, made);
  }

  private static void refusedWhenFull(String call, int by, ToLongFunction<Counted> made) {
    refusedOf("full", RefusalsTest::full, call, by, made);
  }

  private static void refusedAtFirst(String call, int by, ToLongFunction<Counted> made) {
    refusedOf("new", RefusalsTest::fresh, call, by, made);
  }

  private static void refusedOf(String kind, Consumer<Counted> recipe, String call, int by,
      ToLongFunction<Counted> made) {
    Counted x = new Counted();
    recipe.accept(x);
    notRefused(x);
    long[] before = refusals(x);
    Due.is(kind + ": " + call, made.applyAsLong(x), by);
    Due.is(kind + ": status behind " + call, x.status(), by);
    long[] then = refusals(x);
    for (int i = 0; i < BY.length; i++) {
      Due.is(kind + ": count " + (7 + i) + " behind " + call, then[i] - before[i], BY[i] == by ? 1 : 0);
    }
    looksAsWithout(kind + ": " + call, recipe, made);
  }

  /** A call that answers NONE is not REFUSED: it leaves status() and the counts. */
  private static void none(String call, ToLongFunction<Counted> made) {
    noneOf("rich", RefusalsTest::rich, call, made);
  }

  private static void noneAtFirst(String call, ToLongFunction<Counted> made) {
    noneOf("new", RefusalsTest::fresh, call, made);
  }

  private static void noneWhenFull(String call, ToLongFunction<Counted> made) {
    noneOf("full", RefusalsTest::full, call, made);
  }

  private static void noneOf(String kind, Consumer<Counted> recipe, String call,
      ToLongFunction<Counted> made) {
    for (int status : new int[] {0, -2}) {
      Counted x = new Counted();
      recipe.accept(x);
      notRefused(x);
      if (status == -2) {
        x.learn(6);
      }
      long[] before = refusals(x);
      Due.is(kind + ": " + call, made.applyAsLong(x), NONE);
      Due.is(kind + ": status behind " + call, x.status(), status);
      long[] then = refusals(x);
      for (int i = 0; i < BY.length; i++) {
        Due.is(kind + ": count " + (7 + i) + " behind " + call, then[i], before[i]);
      }
    }
    looksAsWithout(kind + ": " + call, recipe, made);
  }

  /** A call that is not REFUSED and changes nothing. */
  private static void notRefused(Counted x) {
    x.read(0, x.of(0));
    Due.is("status ahead of the call", x.status(), 0);
  }

  private static long[] refusals(Counted x) {
    long[] all = new long[BY.length];
    for (int i = 0; i < BY.length; i++) {
      all[i] = x.count(7 + i);
    }
    return all;
  }

  private static void looksAsWithout(String what, Consumer<Counted> recipe, ToLongFunction<Counted> made) {
    changesOnly(what, recipe, made, x -> { });
  }

  /** Whether a call does no more than another, but for what begins with one of some words. */
  private static void changesOnly(String what, Consumer<Counted> recipe, ToLongFunction<Counted> made,
      Consumer<Counted> other, String... words) {
    Counted with = new Counted();
    recipe.accept(with);
    made.applyAsLong(with);
    Counted without = new Counted();
    recipe.accept(without);
    other.accept(without);
    for (String question : Look.unlike(with, without)) {
      boolean mayChange = false;
      for (String word : words) {
        mayChange |= question.startsWith(word);
      }
      Due.so(what + " changes " + question, mayChange);
    }
    Due.so(what + " was looked at", true);
  }

  private static void numbersOfTheCoast() {
    for (int n : new int[] {LOW, -1, 0, 9, HIGH}) {
      refused("lamps(" + n + ")", -1, x -> x.lamps(n));
      refusedAtFirst("lamps(" + n + ")", -1, x -> x.lamps(n));
    }
    for (int k : new int[] {LOW, -1, 0, 1, 9, HIGH}) {
      refused("news(" + k + ")", -1, x -> x.news(k));
      refusedAtFirst("news(" + k + ")", -1, x -> x.news(k));
    }
    for (int lamp : new int[] {LOW, -1, 3, 8, HIGH}) {
      refused("oil(" + lamp + ", 1)", -1, x -> x.oil(lamp, 1));
      refused("broken(" + lamp + ", 1)", -1, x -> x.broken(lamp, 1));
    }
    refusedWhenFull("oil(8, 1)", -1, x -> x.oil(8, 1));
    refusedWhenFull("broken(8, 1)", -1, x -> x.broken(8, 1));
    for (int oil : new int[] {LOW, -1, 100, HIGH}) {
      refused("oil(0, " + oil + ")", -1, x -> x.oil(0, oil));
    }
    for (int is : new int[] {LOW, -1, 2, HIGH}) {
      refused("broken(0, " + is + ")", -1, x -> x.broken(0, is));
    }
    for (int state : new int[] {LOW, -1, 8, 256, HIGH}) {
      refused("read(" + state + ", 0)", -1, x -> x.read(state, 0));
      refused("read(" + state + ", NONE)", -1, x -> x.read(state, NONE));
    }
    refusedWhenFull("read(256, 0)", -1, x -> x.read(256, 0));
    for (int news : new int[] {LOW, -2, 4, 8, HIGH}) {
      refused("read(5, " + news + ")", -1, x -> x.read(5, news));
    }
    refusedWhenFull("read(255, 8)", -1, x -> x.read(255, 8));
  }

  private static void numbersOfSending() {
    for (int n : new int[] {LOW, -1, 0, 4, HIGH}) {
      refused("make(" + n + ", 4, 1)", -1, x -> x.make(n, 4, 1));
    }
    for (int k : new int[] {LOW, -1, 0, 1, 5, HIGH}) {
      refused("make(3, " + k + ", 1)", -1, x -> x.make(3, k, 1));
    }
    for (int t : new int[] {LOW, -1, 9, HIGH}) {
      refused("make(3, 4, " + t + ")", -1, x -> x.make(3, 4, t));
      refusedAtFirst("make(3, 4, " + t + ")", -1, x -> x.make(3, 4, t));
    }
    for (int news : new int[] {LOW, -1, 4, HIGH}) {
      refused("send(" + news + ", 0)", -1, x -> x.send(news, 0));
      refused("want(" + news + ")", -1, x -> x.want(news));
      refusedAtFirst("want(" + news + ")", -1, x -> x.want(news));
    }
    for (int manner : new int[] {LOW, -1, 4, HIGH}) {
      refused("send(3, " + manner + ")", -1, x -> x.send(3, manner));
      refused("night(5, 5, " + manner + ")", -1, x -> x.night(5, 5, manner));
    }
    for (int seed : new int[] {LOW, -1, 1_000_001, HIGH}) {
      refused("night(" + seed + ", 5, 0)", -1, x -> x.night(seed, 5, 0));
    }
    for (int many : new int[] {LOW, -1, 25, HIGH}) {
      refused("night(5, " + many + ", 0)", -1, x -> x.night(5, many, 0));
    }
    for (int k : new int[] {LOW, -1, 2, HIGH}) {
      refused("image(" + k + ")", -1, x -> x.image(k));
      refused("back(" + k + ")", -1, x -> x.back(k));
      refusedAtFirst("back(" + k + ")", -1, x -> x.back(k));
    }
  }

  private static void noSuch() {
    for (int law : new int[] {LOW, -1, 2, 5, 6, HIGH}) {
      refused("learn(" + law + ")", -2, x -> x.learn(law));
    }
    for (int law : new int[] {0, 5, 6}) {
      refusedAtFirst("learn(" + law + ")", -2, x -> x.learn(law));
    }
    refusedWhenFull("learn(6)", -2, x -> x.learn(6));
    refused("back(0)", -2, x -> x.back(0));
    refusedAtFirst("back(0)", -2, x -> x.back(0));
    refusedAtFirst("back(1)", -2, x -> x.back(1));
    refusedOf("the other kept", x -> x.image(0), "back(1)", -2, x -> x.back(1));
  }

  private static void cantBe() {
    refused("make(2, 4, 1)", -3, x -> x.make(2, 4, 1));
    refused("make(3, 3, 1)", -3, x -> x.make(3, 3, 1));
    refused("make(3, 4, 3)", -3, x -> x.make(3, 4, 3));
    refused("make(3, 4, 8)", -3, x -> x.make(3, 4, 8));
    refused("send(0, 0)", -3, x -> x.send(0, 0));
    refused("send(0, 3)", -3, x -> x.send(0, 3));
    refusedWhenFull("make(3, 4, 1)", -3, x -> x.make(3, 4, 1));
    for (int news = 0; news < 4; news++) {
      int told = news;
      refusedAtFirst("send(" + news + ", 0)", -3, x -> x.send(told, 0));
    }
  }

  private static void noRoom() {
    refusedWhenFull("send(7, 0)", -5, x -> x.send(7, 0));
    refusedWhenFull("want(7)", -5, x -> x.want(7));
    refusedWhenFull("want(0)", -5, x -> x.want(0));
  }

  /** Those that leave an empty TAPE; what law() empties is looked at with its own promise. */
  private static void noText() {
    Consumer<Counted> empty = x -> {
      rich(x);
      x.end(0);
    };
    refusedOf("empty tape", empty, "row()", -6, Counted::row);
    refusedOf("empty tape", empty, "trail()", -6, Counted::trail);
    refusedAtFirst("row()", -6, Counted::row);
    refusedAtFirst("trail()", -6, Counted::trail);
  }

  /** The first of the reasons, in the order -1, -2, -3, -5, -6. */
  private static void orderOfRefusals() {
    refusedWhenFull("send(8, 0): a number ahead of no room", -1, x -> x.send(8, 0));
    refusedWhenFull("send(1, 4): a number ahead of no way", -1, x -> x.send(1, 4));
    refusedWhenFull("send(1, 0): no way ahead of no room", -3, x -> x.send(1, 0));
    refusedWhenFull("want(8): a number ahead of no room", -1, x -> x.want(8));
    refusedWhenFull("make(4, 4, 1): a number ahead of others", -1, x -> x.make(4, 4, 1));
    refusedWhenFull("make(3, 4, 9): a number ahead of others", -1, x -> x.make(3, 4, 9));
    refusedAtFirst("back(2): a number ahead of none kept", -1, x -> x.back(2));
  }

  private static void noneOfTheCode() {
    for (int state : new int[] {LOW, -1, 8, 256, HIGH}) {
      none("of(" + state + ")", x -> x.of(state));
    }
    noneAtFirst("of(0)", x -> x.of(0));
    noneWhenFull("of(256)", x -> x.of(256));
    for (int n : new int[] {LOW, -1, 0, 4, HIGH}) {
      none("codes(" + n + ", 2, 1)", x -> x.codes(n, 2, 1));
    }
    for (int k : new int[] {LOW, -1, 0, 1, 5, HIGH}) {
      none("codes(1, " + k + ", 1)", x -> x.codes(1, k, 1));
    }
    for (int t : new int[] {LOW, -1, 9, HIGH}) {
      none("codes(1, 2, " + t + ")", x -> x.codes(1, 2, t));
    }
    for (int what : new int[] {LOW, -1, 13, HIGH}) {
      none("count(" + what + ")", x -> x.count(what));
    }
  }

  private static void noneOfTheTape() {
    noneWhenFull("feed(1, 2, 3, 4, 5)", x -> x.feed(1, 2, 3, 4, 5));
    for (int n : new int[] {LOW, -1, 10, 400, HIGH}) {
      none("end(" + n + ")", x -> x.end(n));
    }
    noneAtFirst("end(1)", x -> x.end(1));
    noneWhenFull("end(401)", x -> x.end(401));
    noneAtFirst("fault()", Counted::fault);
  }

  private static void noneOfSending() {
    for (int bad : new int[] {LOW, -1, 4, HIGH}) {
      none("next(0, " + bad + ", 0)", x -> x.next(0, bad, 0));
      none("next(0, 0, " + bad + ")", x -> x.next(0, 0, bad));
      none("ways(0, " + bad + ")", x -> x.ways(0, bad));
      none("judge(" + bad + ")", x -> x.judge(bad));
    }
    for (int state : new int[] {LOW, -1, 8, HIGH}) {
      none("next(" + state + ", 0, 0)", x -> x.next(state, 0, 0));
      none("ways(" + state + ", 0)", x -> x.ways(state, 0));
      none("lasts(" + state + ")", x -> x.lasts(state));
      none("mean(" + state + ", 0)", x -> x.mean(state, 0));
      none("mean(" + state + ", 1)", x -> x.mean(state, 1));
      none("maybe(" + state + ", 0)", x -> x.maybe(state, 0));
    }
    noneWhenFull("next(256, 0, 0)", x -> x.next(256, 0, 0));
    noneWhenFull("next(0, 8, 0)", x -> x.next(0, 8, 0));
    noneWhenFull("lasts(256)", x -> x.lasts(256));
    none("next(7, 1, 0), it can't be SENT", x -> x.next(7, 1, 0));
    for (int bad : new int[] {LOW, -1, 2, HIGH}) {
      none("mean(0, " + bad + ")", x -> x.mean(0, bad));
      none("cheap(" + bad + ")", x -> x.cheap(bad));
    }
    for (int state : new int[] {LOW, -2, 8, HIGH}) {
      none("reached(" + state + ")", x -> x.reached(state));
    }
    for (int i : new int[] {LOW, -2, 2, 9, HIGH}) {
      none("failing(" + i + ")", x -> x.failing(i));
    }
    for (int lamp : new int[] {LOW, -1, 3, 8, HIGH}) {
      none("hurts(" + lamp + ")", x -> x.hurts(lamp));
    }
    noneWhenFull("hurts(8)", x -> x.hurts(8));
  }

  private static void noneOfRows() {
    for (int t : new int[] {LOW, -1, 9, HIGH}) {
      none("rows(" + t + ", 0, 0)", x -> x.rows(t, 0, 0));
      none("could(" + t + ", 0, 0, 0, 0)", x -> x.could(t, 0, 0, 0, 0));
    }
    for (int state : new int[] {LOW, -1, 8, HIGH}) {
      none("rows(1, " + state + ", 0)", x -> x.rows(1, state, 0));
      none("could(1, " + state + ", 0, 0, 0)", x -> x.could(1, state, 0, 0, 0));
    }
    for (int bad : new int[] {LOW, -1, 4, HIGH}) {
      none("rows(1, 0, " + bad + ")", x -> x.rows(1, 0, bad));
      none("could(1, 0, " + bad + ", 0, 0)", x -> x.could(1, 0, bad, 0, 0));
      none("could(1, 0, 0, 0, " + bad + ")", x -> x.could(1, 0, 0, 0, bad));
    }
    for (int j : new int[] {LOW, -1, 3, HIGH}) {
      none("could(3, 7, 0, " + j + ", 0)", x -> x.could(3, 7, 0, j, 0));
    }
    none("could(0, 0, 0, 0, 0)", x -> x.could(0, 0, 0, 0, 0));
    none("could(8, 7, 0, 8, 0)", x -> x.could(8, 7, 0, 8, 0));
    noneWhenFull("rows(8, 256, 0)", x -> x.rows(8, 256, 0));
  }

  private static void noneOfTheRest() {
    for (int missed : new int[] {LOW, -1, 9, HIGH}) {
      none("maybe(0, " + missed + ")", x -> x.maybe(0, missed));
    }
    for (int lit : new int[] {LOW, -1, 4, 9, HIGH}) {
      none("spy(" + lit + ")", x -> x.spy(lit));
    }
    noneWhenFull("spy(9)", x -> x.spy(9));
    for (int i : new int[] {LOW, -2, 3, 24, HIGH}) {
      none("log(" + i + ")", x -> x.log(i));
    }
    noneAtFirst("log(0)", x -> x.log(0));
    noneWhenFull("log(24)", x -> x.log(24));
    for (int i : new int[] {LOW, -1, 3, 16, HIGH}) {
      none("plan(" + i + ")", x -> x.plan(i));
    }
    noneAtFirst("plan(0)", x -> x.plan(0));
    noneWhenFull("plan(16)", x -> x.plan(16));
    for (int i : new int[] {LOW, -2, 4, 24, HIGH}) {
      none("drawn(" + i + ")", x -> x.drawn(i));
    }
    noneAtFirst("drawn(0)", x -> x.drawn(0));
    noneAtFirst("drawn(NONE)", x -> x.drawn(NONE));
    noneAtFirst("judge(0), no TRAIL", x -> x.judge(0));
  }

  /** A LAW that is REFUSED empties the TAPE; if its TEXT was read, FAULT tells of it. */
  private static void lawsThatAreRefused() {
    changesOnly("law(), -6", RefusalsTest::rich, Counted::law, x -> x.end(0), "fault");
    changesOnly("law(), -5", RefusalsTest::full, Counted::law, x -> x.end(0));
    Counted x = new Counted();
    rich(x);
    Due.is("rich: law()", x.law(), -6);
    Due.is("rich: status behind law()", x.status(), -6);
    Due.is("rich: fault behind law()", x.fault(), 0);
    Due.is("rich: tape behind law()", x.count(6), 0);
    Due.is("rich: count 11 behind law()", x.count(11), 3);
    Counted y = new Counted();
    full(y);
    Due.is("full: law()", y.law(), -5);
    Due.is("full: status behind law()", y.status(), -5);
    Due.is("full: fault behind law()", y.fault(), NONE);
    Due.is("full: tape behind law()", y.count(6), 0);
    Due.is("full: count 10 behind law()", y.count(10), 1);
    Due.is("full: count 11 behind law()", y.count(11), 0);
  }

  private static void question(String call, ToLongFunction<Counted> made) {
    looksAsWithout("rich: " + call, RefusalsTest::rich, made);
    looksAsWithout("full: " + call, RefusalsTest::full, made);
    for (int status : new int[] {0, -2}) {
      Counted x = new Counted();
      rich(x);
      notRefused(x);
      if (status == -2) {
        x.learn(6);
      }
      long[] before = refusals(x);
      made.applyAsLong(x);
      Due.is("status behind " + call, x.status(), status);
      long[] then = refusals(x);
      for (int i = 0; i < BY.length; i++) {
        Due.is("count " + (7 + i) + " behind " + call, then[i], before[i]);
      }
    }
  }

  /** Calls that ask leave all as it is, status() and the counts of refusals, too. */
  private static void questionsChangeNothing() {
    question("of", x -> x.of(1));
    question("torn", Counted::torn);
    question("fault", Counted::fault);
    for (int m = 0; m < 4; m++) {
      int manner = m;
      question("next", x -> x.next(0, 1, manner));
      question("judge", x -> x.judge(manner));
      question("rows", x -> x.rows(2, 3, manner));
      question("could", x -> x.could(2, 3, manner, 1, 3));
    }
    question("ways", x -> x.ways(0, 1));
    question("lasts", x -> x.lasts(0));
    question("mean", x -> x.mean(0, 0));
    question("mean", x -> x.mean(0, 1));
    question("reached", x -> x.reached(1));
    question("reached, how many", x -> x.reached(NONE));
    question("failing", x -> x.failing(0));
    question("failing, how many", x -> x.failing(NONE));
    question("hurts", x -> x.hurts(0));
    question("codes", x -> x.codes(2, 3, 1));
    question("log", x -> x.log(0));
    question("log, what is", x -> x.log(NONE));
    question("burnt", Counted::burnt);
    question("maybe", x -> x.maybe(0, 1));
    question("safe", Counted::safe);
    question("spy", x -> x.spy(1));
    question("cheap", x -> x.cheap(0));
    question("cheap, ways", x -> x.cheap(1));
    question("plan", x -> x.plan(0));
    question("drawn", x -> x.drawn(0));
    question("drawn, unsent", x -> x.drawn(NONE));
    question("count", x -> x.count(3));
    question("status", Counted::status);
  }

  private static void own(String call, ToLongFunction<Counted> made, String... words) {
    changesOnly("rich: " + call, RefusalsTest::rich, made, x -> { }, words);
    changesOnly("full: " + call, RefusalsTest::full, made, x -> { }, words);
  }

  /** Calls that are not REFUSED change what is theirs alone. */
  private static void callsChangeTheirOwn() {
    String[] byCode = {"count 3", "judge", "of", "lasts", "mean", "next", "reached", "safe", "rows", "failing",
        "cheap", "plan"};
    String[] byRow = {"count 3", "judge", "of", "lasts", "mean", "next", "reached", "safe", "rows", "failing",
        "cheap", "plan", "torn", "count 6", "tape"};
    own("night(7, 24, 2)", x -> x.night(7, 24, 2), "drawn");
    own("image(0)", x -> x.image(0), "image 0");
    own("image(1)", x -> x.image(1), "image 1");
    own("dawn()", Counted::dawn, "count 4", "log", "burnt");
    own("send(3, 0)", x -> x.send(3, 0), "count 4", "log", "burnt");
    own("want(2)", x -> x.want(2), "count 5", "cheap", "plan");
    own("unwant()", Counted::unwant, "count 5", "cheap", "plan");
    own("oil(0, 98)", x -> x.oil(0, 98), "oil 0", "burnt", "judge", "next", "cheap", "plan");
    own("broken(0, 1)", x -> x.broken(0, 1), "broken 0", "judge", "lasts", "mean", "next", "reached", "safe", "rows",
        "failing", "cheap", "plan");
    own("read(1, 0)", x -> x.read(1, 0), byCode);
    own("learn(1)", x -> x.learn(1), byCode);
    own("make(3, 4, 1)", x -> x.make(3, 4, 1), byCode);
    own("row()", Counted::row, byRow);
    own("trail()", Counted::trail, "count 6", "count 12", "judge", "tape");
    own("feed(7, 7, 7, 7, 7)", x -> x.feed(7, 7, 7, 7, 7), "count 6", "tape");
    own("end(5)", x -> x.end(5), "count 6", "tape");
    own("lamps(3)", x -> x.lamps(3), "count 0", "count 3", "count 4", "count 5", "judge", "of", "lasts", "mean",
        "next", "reached", "safe", "rows", "failing", "cheap", "plan", "log", "burnt", "oil", "broken", "tape", "laws");
    own("news(4)", x -> x.news(4), "count 1", "count 3", "count 4", "count 5", "judge", "of", "lasts", "mean",
        "next", "reached", "safe", "rows", "failing", "cheap", "plan", "log", "burnt", "tape", "laws");
    Consumer<Counted> withLaw = x -> {
      rich(x);
      x.end(0);
      Due.text(x, "reads 3");
    };
    changesOnly("law()", withLaw, Counted::law, x -> x.end(0), "count 2", "fault", "laws");
    changesOnly("back(1)", RefusalsTest::full, x -> x.back(1), x -> { });
    changesOnly("back(1) of an image of what is", RefusalsTest::rich, x -> x.image(1) + x.back(1), x -> x.image(1));
  }
}
