/** The boundary cases of term IV and of the promises that the other tests do not look at. */
public final class BoundsTest {
  private static final int NONE = Counted.NONE;

  public static void main(String[] args) {
    newObject();
    lampsForget();
    newsForgets();
    whatLampsAndNewsLeave();
    readStates();
    fedBytes();
    endOfTheTape();
    rowOfBytes();
    tornBytes();
    sixLaws();
    noRoomForALaw();
    latestFault();
    learnt();
    fullLog();
    dawns();
    burntOil();
    trails();
    judgedFirst();
    judgedLast();
    judgedReasons();
    judgedByManners();
    rowsOfNews();
    couldHaveBeen();
    maybes();
    safety();
    spies();
    fullWanted();
    unwanted();
    cheapest();
    planned();
    draws();
    drawnNights();
    latestNight();
    imagesKeep();
    imagesDoNotKeep();
    imagesStay();
    imagesOfTheFirst();
    counts();
    statuses();
    askedAheadAndBehind();
    askedFirst();
    lastCall();
    Due.close();
  }

  private static Counted coast(int lamps, int news) {
    Counted x = new Counted();
    x.lamps(lamps);
    x.news(news);
    return x;
  }

  private static Counted coast(int lamps, int news, String law) {
    Counted x = coast(lamps, news);
    Due.law(x, law);
    x.learn(0);
    return x;
  }

  private static void counted(String what, Counted x, int from, int... due) {
    for (int i = 0; i < due.length; i++) {
      Due.is(what + ", count " + (from + i), x.count(from + i), due[i]);
    }
  }

  private static void newObject() {
    Counted x = new Counted();
    counted("new", x, 0, 3, 4, 0, 0, 0, 0, 0, 0, 0, 0, 0, 0, 0);
    Due.is("new: status", x.status(), 0);
    Due.is("new: torn", x.torn(), 0);
    Due.is("new: fault", x.fault(), NONE);
    Due.is("new: state", x.log(NONE), 0);
    Due.is("new: log", x.log(0), NONE);
    Due.is("new: burnt", x.burnt(), 0);
    Due.is("new: judge", x.judge(0), NONE);
    Due.is("new: drawn", x.drawn(0), NONE);
    Due.is("new: unsent", x.drawn(NONE), NONE);
    Due.is("new: cheap", x.cheap(0), 0);
    Due.is("new: ways", x.cheap(1), 1);
    Due.is("new: plan", x.plan(0), NONE);
    Due.is("new: lasts", x.lasts(7), 0);
    Due.is("new: mean", x.mean(7, 0), 0);
    Due.is("new: mean, lower", x.mean(7, 1), 1);
    Due.is("new: failing", x.failing(NONE), 1);
    Due.is("new: safe", x.safe(), 8);
    Due.is("new: spy", x.spy(0), 0);
    Due.is("new: maybe", x.maybe(0, 8), 0);
    Due.is("new: rows of none", x.rows(0, 0, 0), 1);
    Due.is("new: rows of one", x.rows(1, 0, 0), 0);
    Due.is("new: reached", x.reached(NONE), 1);
    Due.is("new: hurts", x.hurts(2), 0);
    Due.is("new: unwant", x.unwant(), 0);
    Due.is("new: dawn", x.dawn(), 0);
    Due.is("new: end", x.end(0), 0);
    Due.is("new: no image 0", x.back(0), -2);
    Due.is("new: no image 1", x.back(1), -2);
    Due.is("new: no law", x.learn(0), -2);
    Due.is("new: night", x.night(0, 24, 0), 0);
    for (int lamp = 0; lamp < 3; lamp++) {
      Due.is("new: oil", x.oil(lamp, 1), 1);
      Due.is("new: broken", x.broken(lamp, 0), 0);
    }
    Due.is("new: lamps", x.lamps(1), 3);
    Due.is("new: news", new Counted().news(2), 4);
  }

  /** All that lamps() makes new, be it the same number or another. */
  private static void lampsForget() {
    for (int n : new int[] {1, 3, 8}) {
      Counted x = coast(3, 4, "reads mix");
      for (int lamp = 0; lamp < 3; lamp++) {
        x.oil(lamp, 50 + lamp);
      }
      x.send(1, 0);
      x.send(0, 0);
      x.want(1);
      x.broken(0, 1);
      x.broken(2, 1);
      Due.is("lamps " + n, x.lamps(n), 3);
      Due.is("lamps " + n + ": status", x.status(), 0);
      counted("lamps " + n, x, 0, n, 4, 1, 0, 0, 0);
      Due.is("lamps " + n + ": dark", x.log(NONE), 0);
      Due.is("lamps " + n + ": log", x.log(0), NONE);
      Due.is("lamps " + n + ": burnt", x.burnt(), 0);
      Due.is("lamps " + n + ": plan", x.plan(0), NONE);
      Due.is("lamps " + n + ": cheap", x.cheap(1), 1);
      for (int state = 0; state < 1 << Math.min(n, 4); state++) {
        Due.is("lamps " + n + ": of " + state, x.of(state), NONE);
      }
      for (int lamp = 0; lamp < n; lamp++) {
        Due.is("lamps " + n + ": oil " + lamp, x.oil(lamp, 1), 1);
        Due.is("lamps " + n + ": broken " + lamp, x.broken(lamp, 0), 0);
      }
    }
    Counted y = coast(8, 2);
    y.oil(7, 9);
    y.broken(7, 1);
    y.read(255, 1);
    y.lamps(7);
    y.lamps(8);
    Due.is("lamps there and back: oil", y.oil(7, 9), 1);
    Due.is("lamps there and back: broken", y.broken(7, 1), 0);
    Due.is("lamps there and back: of", y.of(255), NONE);
  }

  private static void newsForgets() {
    for (int k : new int[] {2, 4, 8}) {
      Counted x = coast(3, 4, "reads mix");
      x.oil(1, 50);
      x.send(1, 0);
      x.want(3);
      x.broken(2, 1);
      Due.is("news " + k, x.news(k), 4);
      Due.is("news " + k + ": status", x.status(), 0);
      counted("news " + k, x, 0, 3, k, 1, 0, 0, 0);
      Due.is("news " + k + ": dark", x.log(NONE), 0);
      Due.is("news " + k + ": log", x.log(0), NONE);
      Due.is("news " + k + ": plan", x.plan(0), NONE);
      Due.is("news " + k + ": cheap", x.cheap(0), 0);
      Due.is("news " + k + ": oil stays", x.oil(1, 1), 50);
      Due.is("news " + k + ": broken stays", x.broken(2, 1), 1);
      for (int state = 0; state < 8; state++) {
        Due.is("news " + k + ": of " + state, x.of(state), NONE);
      }
    }
  }

  /** LAWS, the TAPE, FAULT, TORN, the TRAIL, the DRAWN NIGHT, IMAGES and refusals stay. */
  private static void whatLampsAndNewsLeave() {
    Counted x = coast(3, 4, "reads mix");
    Due.law(x, "reads 1 x");
    Due.code(x, 0, 1, 2, 3, 3, 2, 1, 0, 5);
    Due.trail(x, 1, 7, 7);
    x.night(0, 10, 0);
    x.image(1);
    Due.tape(x, 1, 1);
    x.lamps(2);
    x.news(8);
    counted("left", x, 6, 2, 0, 0, 0, 0, 1, 3);
    Due.is("left: laws", x.count(2), 1);
    Due.is("left: fault", x.fault(), 8);
    Due.is("left: torn", x.torn(), 1);
    Due.is("left: drawn", x.drawn(4), 7);
    Due.is("left: unsent", x.drawn(NONE), 2);
    Due.is("left: row", x.row(), 2);
    Due.is("left: learn", x.learn(0), 4);
    Due.is("left: image", x.back(1), 0);
    Due.is("left: lamps of the image", x.count(0), 3);
    Due.is("left: news of the image", x.count(1), 4);
  }

  /** A STATE is READ as other NEWS without a change of the NIGHT or of what is WANTED. */
  private static void readStates() {
    Counted x = coast(3, 4, "reads mix");
    x.send(1, 0);
    x.want(1);
    Due.is("read the same", x.read(1, 1), 1);
    Due.is("read other", x.read(1, 3), 1);
    Due.is("read not", x.read(1, NONE), 3);
    Due.is("read not, status", x.status(), 0);
    Due.is("read not again", x.read(1, NONE), NONE);
    Due.is("read not again, status", x.status(), 0);
    counted("read", x, 3, 7, 1, 1);
    Due.is("the night", x.log(NONE), 1);
    Due.is("what is wanted", x.plan(0), 6);
    Due.is("read the dark", x.read(0, 3), 0);
    Due.is("read the last", x.read(7, 3), 0);
    Due.is("none refused", x.count(7), 0);
  }

  private static void fedBytes() {
    Counted x = coast(8, 8);
    Due.is("fed", x.feed(0x00010203, 0x04050607, 0x08090a7f, 0x80818283, 0xfcfdfeff), 20);
    Due.is("fed row", x.row(), 8);
    for (int state = 0; state < 20; state++) {
      Due.is("fed " + state, x.of(state), state < 8 ? state : NONE);
    }
    Due.is("fed again", x.feed(0x01000000, 0, 0, 0, 0x06070706), 20);
    Due.is("fed behind", x.feed(0x05050505, 1, 2, 3, 0x00000004), 40);
    Due.is("fed row", x.row(), 40);
    int[] due = {1, 0, 0, 0};
    int[] last = {6, 7, 7, 6, 5, 5, 5, 5, 0, 0, 0, 1};
    for (int i = 0; i < due.length; i++) {
      Due.is("fed first " + i, x.of(i), due[i]);
    }
    for (int i = 0; i < last.length; i++) {
      Due.is("fed then " + i, x.of(16 + i), last[i]);
    }
    Due.is("fed last", x.of(39), 4);
    Due.is("fed no more", x.of(40), NONE);
    fedFull();
  }

  private static void fedFull() {
    for (int left : new int[] {0, 1, 19, 20, 21}) {
      Counted x = new Counted();
      for (int i = 1; i <= 20; i++) {
        Due.is("feed " + i, x.feed(0, 0, 0, 0, 0), 20 * i);
      }
      Due.is("end " + left, x.end(400 - left), 400 - left);
      int due = left < 20 ? NONE : 420 - left;
      Due.is("feed if " + left + " are left", x.feed(0x01010101, 0, 0, 0, 0), due);
      Due.is("tape then", x.count(6), left < 20 ? 400 - left : due);
      Due.is("not refused", x.status(), 0);
      counted("feed", x, 7, 0, 0, 0, 0, 0);
    }
  }

  private static void endOfTheTape() {
    Counted x = new Counted();
    Due.is("end of none", x.end(0), 0);
    Due.is("end of none, one", x.end(1), NONE);
    x.feed(0, 0, 0, 0, 0);
    Due.is("end, one more", x.end(21), NONE);
    Due.is("end, all", x.end(20), 20);
    Due.is("end, one less", x.end(19), 19);
    Due.is("end, what was cut", x.end(20), NONE);
    Due.is("end, below", x.end(-1), NONE);
    Due.is("end, one", x.end(1), 1);
    Due.is("end, none", x.end(0), 0);
    Due.is("end, empty", x.count(6), 0);
    Due.is("end, then a row", x.row(), -6);
    counted("end", x, 7, 0, 0, 0, 0, 1);
  }

  private static void rowOfBytes() {
    Counted x = coast(3, 4, "reads 1");
    Due.is("a row of one", Due.code(x, 2), 1);
    Due.is("its state", x.of(0), 2);
    for (int state = 1; state < 8; state++) {
      Due.is("no bytes for " + state, x.of(state), NONE);
    }
    Due.is("a row of seven", Due.code(x, 0, 0, 0, 0, 0, 0, 0), 7);
    Due.is("no byte for the last", x.of(7), NONE);
    Due.is("a row of others", Due.code(x, 4, 5, 8, 127, 128, 254, 255, 32), 0);
    Due.is("none is read", x.count(3), 0);
    Due.is("status", x.status(), 0);
    Due.is("tape", x.count(6), 0);
    Due.is("a row of all", Due.code(x, 3, 3, 3, 3, 0, 0, 0, 0, 3, 3), 8);
    Due.is("all are read", x.count(3), 8);
    Due.is("the night", x.log(NONE), 0);
    Due.is("refused: empty", x.row(), -6);
    Due.is("refused: status", x.status(), -6);
    Due.is("refused: read", x.count(3), 8);
    counted("refused", x, 7, 0, 0, 0, 0, 1);
  }

  private static void tornBytes() {
    Counted x = coast(1, 2);
    Due.code(x, 0);
    Due.is("less than all", x.torn(), 0);
    Due.code(x, 0, 1);
    Due.is("just all", x.torn(), 0);
    Due.code(x, 0, 1, 0);
    Due.is("one more", x.torn(), 1);
    x.row();
    Due.is("a refused row", x.torn(), 1);
    Due.trail(x, 0, 1, 1, 1, 1, 1);
    Due.is("a trail", x.torn(), 1);
    Due.law(x, "reads 1");
    x.learn(0);
    x.make(1, 2, 1);
    x.lamps(2);
    Due.is("other calls", x.torn(), 1);
    Due.code(x, new int[400]);
    Due.is("the most of four", x.torn(), 396);
    x.lamps(8);
    Due.code(x, new int[256]);
    Due.is("none of the most", x.torn(), 0);
    Due.code(x, new int[257]);
    Due.is("one of the most", x.torn(), 1);
  }

  private static void sixLaws() {
    Counted x = coast(1, 8);
    for (int i = 0; i < 6; i++) {
      Due.is("law " + i, Due.law(x, "reads " + (i + 2)), i);
      Due.is("no such law yet", x.learn(i + 1), -2);
    }
    for (int i = 5; i >= 0; i--) {
      Due.is("learn " + i, x.learn(i), 2);
      Due.is("what law " + i + " tells", x.of(1), i + 2);
    }
    Due.is("no law 6", x.learn(6), -2);
    Due.is("no law -1", x.learn(-1), -2);
    Due.is("what stays", x.of(1), 2);
    counted("six laws", x, 7, 0, 8, 0, 0, 0);
    Due.is("status", x.status(), -2);
  }

  private static void noRoomForALaw() {
    Counted x = new Counted();
    for (int i = 0; i < 6; i++) {
      Due.law(x, "reads " + i);
    }
    Due.is("fault ahead", x.fault(), NONE);
    String[] texts = {"reads 1", "reads", "x", "   ", ""};
    for (int i = 0; i < texts.length; i++) {
      Due.is("no room for '" + texts[i] + "'", Due.law(x, texts[i]), -5);
      Due.is("no room: status", x.status(), -5);
      Due.is("no room: the tape is empty", x.count(6), 0);
      Due.is("no room: no fault", x.fault(), NONE);
      Due.is("no room: laws", x.count(2), 6);
      counted("no room", x, 7, 0, 0, 0, i + 1, 0);
    }
    Counted y = new Counted();
    y.image(0);
    Due.law(y, "reads");
    for (int i = 0; i < 6; i++) {
      Due.law(y, "reads " + i);
    }
    y.back(0);
    Due.is("room again", Due.law(y, "reads 1"), 0);
    Due.is("room again: fault", y.fault(), NONE);
    Due.is("a fault takes no room", Due.law(y, "x"), -6);
    Due.is("a fault empties the tape", y.count(6), 0);
    Due.is("a fault: laws", y.count(2), 1);
    Due.is("the next", Due.law(y, "reads 1"), 1);
  }

  private static void latestFault() {
    Counted x = new Counted();
    Due.is("no law", x.fault(), NONE);
    Due.law(x, "reads 1 x");
    Due.is("a fault", x.fault(), 8);
    Due.law(x, "reads 1");
    Due.is("none then", x.fault(), NONE);
    Due.law(x, "");
    Due.is("an empty text", x.fault(), 0);
    for (int i = 0; i < 5; i++) {
      Due.law(x, "reads 1");
    }
    Due.is("none again", x.fault(), NONE);
    Counted y = new Counted();
    for (int i = 0; i < 6; i++) {
      Due.law(y, "reads 1");
      if (i == 4) {
        Due.law(y, "reads ;");
        Due.is("a fault ahead of the sixth", y.fault(), 6);
      }
    }
    Due.is("the sixth has none", y.fault(), NONE);
    Counted z = new Counted();
    z.image(0);
    for (int i = 0; i < 6; i++) {
      Due.law(z, "reads 1");
    }
    z.image(1);
    z.back(0);
    Due.law(z, "reads 1 if");
    z.back(1);
    Due.is("of the latest that read a text", z.fault(), 10);
    Due.law(z, "y");
    Due.is("what was not read tells nothing", z.fault(), 10);
  }

  private static void learnt() {
    Counted x = coast(3, 4, "reads state");
    Due.is("learn again", x.learn(0), 4);
    x.read(7, 2);
    Due.is("learn is all the code", x.learn(0), 4);
    Due.is("what was read besides", x.of(7), NONE);
    x.send(3, 0);
    x.want(2);
    x.learn(0);
    counted("learn leaves", x, 2, 1, 4, 1, 1);
    Due.is("learn leaves the state", x.log(NONE), 3);
    Due.law(x, "reads 9");
    Due.is("learn none", x.learn(1), 0);
    Due.is("learn none, status", x.status(), 0);
    Due.is("none can be sent", x.send(3, 0), -3);
  }

  private static void fullLog() {
    for (int manner = 0; manner < 4; manner++) {
      Counted x = coast(3, 2, "reads lit%2");
      Due.is("first", x.send(1, manner), 1);
      for (int i = 2; i <= 24; i++) {
        Due.is("again", x.send(1, manner), 0);
        Due.is("log", x.count(4), i);
      }
      Due.is("status", x.status(), 0);
      Due.is("the last of the log", x.log(23), 1);
      Due.is("behind the log", x.log(24), NONE);
      Due.is("full, by no lamps", x.send(1, manner), -5);
      Due.is("full, by more", x.send(0, manner), -5);
      Due.is("full: status", x.status(), -5);
      Due.is("full: state", x.log(NONE), 1);
      Due.is("full: log", x.count(4), 24);
      counted("full", x, 7, 0, 0, 0, 2, 0);
      Due.is("dawn", x.dawn(), 1);
      Due.is("empty", x.count(4), 0);
      Due.is("room again", x.send(0, manner), 0);
      Due.is("room again: log", x.log(0), 0);
      Due.is("room again: no more", x.log(1), NONE);
    }
  }

  private static void dawns() {
    Counted x = coast(8, 2, "reads lit/8");
    Due.is("of none", x.dawn(), 0);
    x.send(1, 0);
    Due.is("of all", x.dawn(), 8);
    Due.is("of none again", x.dawn(), 0);
    Due.is("dark", x.log(NONE), 0);
    Due.is("burnt", x.burnt(), 0);
    x.send(0, 0);
    Due.is("a log without lamps", x.dawn(), 0);
    Due.is("is empty, too", x.count(4), 0);
    Due.is("laws", x.count(2), 1);
    Due.is("code", x.count(3), 256);
  }

  private static void burntOil() {
    Counted x = coast(3, 2, "reads lit/2%2");
    x.oil(0, 10);
    x.oil(1, 20);
    x.oil(2, 40);
    Due.is("none", x.burnt(), 0);
    x.send(1, 1);
    Due.is("two", x.burnt(), 30);
    x.oil(2, 99);
    Due.is("not of one that is dark", x.burnt(), 30);
    x.oil(0, 0);
    Due.is("as it is now", x.burnt(), 20);
    x.image(0);
    x.oil(1, 99);
    Due.is("more now", x.burnt(), 99);
    x.back(0);
    Due.is("as it was", x.burnt(), 20);
  }

  private static void trails() {
    for (int many : new int[] {1, 2, 29, 30, 31, 32, 60, 400}) {
      Counted x = coast(8, 2, "reads lit%2");
      int[] states = new int[many];
      for (int i = 29; i < many; i++) {
        states[i] = i == 29 ? 1 : 2;
      }
      Due.is("trail of " + many, Due.trail(x, states), Math.min(30, many));
      Due.is("status", x.status(), 0);
      Due.is("tape", x.count(6), 0);
      Due.is("count", x.count(12), Math.min(30, many));
      Due.is("those that count are as due", x.judge(0), NONE);
      Due.is("an empty one", x.trail(), -6);
      Due.is("status then", x.status(), -6);
      Due.is("the trail stays", x.count(12), Math.min(30, many));
      counted("trail", x, 7, 0, 0, 0, 0, 1);
      Due.is("a shorter one", Due.trail(x, 3), 1);
      Due.is("has no more", x.count(12), 1);
      Due.is("is judged", x.judge(0), 0);
    }
  }

  private static void judgedFirst() {
    Counted x = coast(8, 2, "reads lit%2");
    for (int state = 0; state < 256; state++) {
      if (state > 20 && state < 120 || state > 136 && state < 250) {
        continue;
      }
      Due.trail(x, state);
      Due.is("a trail of " + state, x.judge(0), state < 2 ? NONE : 0);
    }
  }

  private static void judgedLast() {
    Counted x = coast(3, 2, "reads lit%2");
    int[] states = new int[30];
    for (int last : new int[] {1, 0, 2, 3, 7, 8, 255}) {
      states[29] = last;
      Due.trail(x, states);
      Due.is("a trail that ends with " + last, x.judge(0), last < 2 ? NONE : 29);
    }
    states[28] = 1;
    for (int last : new int[] {1, 3, 0, 2, 5, 7}) {
      states[29] = last;
      Due.trail(x, states);
      Due.is("a trail that ends with 1 and " + last, x.judge(0), last == 1 || last == 3 ? NONE : 29);
    }
  }

  private static void judgedReasons() {
    Counted x = coast(3, 4, "reads mix");
    Due.trail(x, 1, 7);
    Due.is("as due", x.judge(0), NONE);
    Due.trail(x, 1, 6, 7);
    Due.is("not all that was lit", x.judge(0), 1);
    Due.trail(x, 1, 7, 0);
    Due.is("none that was lit", x.judge(0), 2);
    Due.trail(x, 4, 7);
    Due.is("as due by another", x.judge(0), NONE);
    x.broken(2, 1);
    Due.is("a broken one", x.judge(0), 0);
    x.broken(2, 0);
    x.broken(0, 1);
    Due.is("a broken one then", x.judge(0), 1);
    x.broken(0, 0);
    x.read(7, NONE);
    Due.is("not read", x.judge(0), 1);
    x.read(7, 0);
    Due.is("read again", x.judge(0), NONE);
    x.read(5, 0);
    Due.is("not what a keeper would have lit", x.judge(0), 1);
    x.lamps(2);
    Due.is("no state any more", x.judge(0), 0);
  }

  private static void judgedByManners() {
    Counted x = coast(3, 2);
    Due.code(x, 0, 9, 9, 1, 1, 9, 9, 0);
    for (int manner = 0; manner < 4; manner++) {
      Due.trail(x, 4, 7);
      Due.is("4 by " + manner, x.judge(manner), manner == 3 ? 0 : NONE);
      Due.trail(x, 3, 7);
      Due.is("3 by " + manner, x.judge(manner), manner == 3 ? NONE : 0);
    }
    x.oil(2, 2);
    Due.is("3 by least oil", x.judge(1), NONE);
    Due.is("no manner above", x.judge(4), NONE);
    Due.trail(x, 255);
    Due.is("no manner, though it is wrong", x.judge(4), NONE);
    Due.is("no manner below, though it is wrong", x.judge(-1), NONE);
    Due.is("a manner", x.judge(3), 0);
  }

  private static void rowsOfNews() {
    Counted x = coast(8, 3, "reads lit%3");
    for (int manner = 0; manner < 4; manner++) {
      Due.is("none", x.rows(0, 0, manner), 1);
      Due.is("none to one", x.rows(0, 1, manner), 0);
      Due.is("none of what is read", x.rows(1, 0, manner), 0);
    }
    // By 1 or 2 LAMPS each time, the lowest.
    Due.is("one", x.rows(1, 1, 0), 1);
    Due.is("one by two", x.rows(1, 3, 0), 1);
    Due.is("one by three", x.rows(1, 7, 0), 0);
    Due.is("two", x.rows(2, 7, 0), 2);
    Due.is("the most", x.rows(8, 255, 0), 1);
    Due.is("one less", x.rows(7, 255, 0), 7);
    Due.is("fewest", x.rows(4, 255, 0), 1);
    Due.is("too few", x.rows(3, 255, 0), 0);
    Due.is("nine", x.rows(9, 255, 0), NONE);
    Due.is("below none", x.rows(-1, 255, 0), NONE);
    Counted y = coast(8, 8, "reads first");
    // From the DARK, which is not READ, any of eight; then only what is lower than what was lit.
    Due.is("any of eight", y.rows(1, 128, 0), 1);
    Due.is("all of them", y.rows(8, 255, 0), 1);
    Due.is("not the other way", y.rows(2, 129, 0), 1);
    Due.is("unread dark", y.rows(0, 0, 0), 1);
  }

  private static void couldHaveBeen() {
    Counted x = coast(8, 3, "reads lit%3");
    Due.is("the only one", x.could(1, 1, 0, 0, 1), 1);
    Due.is("another", x.could(1, 1, 0, 0, 0), 0);
    Due.is("the last of eight", x.could(8, 255, 0, 7, 2), 1);
    Due.is("behind the last of eight", x.could(8, 255, 0, 8, 2), NONE);
    Due.is("the first of eight", x.could(8, 255, 0, 0, 1), 1);
    Due.is("ahead of the first", x.could(8, 255, 0, -1, 1), NONE);
    // One of the seven steps takes two LAMPS: in one row it is the first.
    Due.is("the first of seven", x.could(7, 255, 0, 0, 2), 1);
    Due.is("the first of seven, one lamp", x.could(7, 255, 0, 0, 1), 6);
    Due.is("the last of seven", x.could(7, 255, 0, 6, 2), 7);
    Due.is("of none", x.could(0, 0, 0, 0, 0), NONE);
    Due.is("of no rows", x.could(3, 255, 0, 2, 2), 0);
    Due.is("nine", x.could(9, 255, 0, 0, 0), NONE);
  }

  private static void maybes() {
    Counted x = coast(8, 8);
    x.read(255, 7);
    for (int missed = 0; missed <= 8; missed++) {
      Due.is("missed " + missed, x.maybe(0, missed), missed == 8 ? 128 : 0);
      Due.is("one seen, missed " + missed, x.maybe(1, missed), missed >= 7 ? 128 : 0);
    }
    Due.is("all seen", x.maybe(255, 0), 128);
    Due.is("missed too many", x.maybe(0, 9), NONE);
    Due.is("missed below none", x.maybe(0, -1), NONE);
    x.read(0, 0);
    Due.is("none missed", x.maybe(0, 0), 1);
    Due.is("seven missed", x.maybe(0, 7), 1);
    Due.is("eight missed", x.maybe(0, 8), 129);
    x.broken(7, 1);
    Due.is("not reached", x.maybe(0, 8), 1);
    Due.is("seen and not reached", x.maybe(255, 8), 0);
    x.read(0, NONE);
    Due.is("reached and not read", x.maybe(0, 8), 0);
  }

  private static void safety() {
    for (int lit = 1; lit <= 8; lit++) {
      Counted x = coast(8, 2);
      x.read(0, 0);
      x.read((1 << lit) - 1, 1);
      Due.is("the dark and " + lit, x.safe(), lit - 1);
      x.read(0, NONE);
      Due.is("one alone", x.safe(), 8);
      x.read(0, 1);
      Due.is("two alike", x.safe(), 8);
    }
    Counted x = coast(8, 3);
    x.read(0x0f, 0);
    x.read(0xf0, 1);
    Due.is("four of each are other", x.safe(), 3);
    x.read(0xf1, 1);
    Due.is("more of the other", x.safe(), 3);
    x.read(0xf0, NONE);
    Due.is("one of them is in both", x.safe(), 3);
    x.read(0xf1, NONE);
    x.read(0xf3, 1);
    Due.is("two are in both", x.safe(), 3);
    x.read(0xf3, NONE);
    x.read(0x3c, 1);
    Due.is("two of each are other", x.safe(), 1);
    x.read(0x1f, 2);
    Due.is("one more", x.safe(), 0);
    x.broken(4, 1);
    Due.is("if they are reached", x.safe(), 8);
    Due.is("no code", coast(8, 8).safe(), 8);
    Due.is("one lamp, two news", coast(1, 2, "reads lit").safe(), 0);
  }

  private static void spies() {
    Counted x = coast(8, 8, "reads lit%8");
    for (int lit = 0; lit <= 8; lit++) {
      Due.is("so many lit: " + lit, x.spy(lit), 1 << (lit % 8));
    }
    Due.is("nine", x.spy(9), NONE);
    Due.is("below none", x.spy(-1), NONE);
    Due.is("all of eight", coast(8, 8, "reads first").spy(1), 255);
    x.broken(0, 1);
    Due.is("not reached", x.spy(8), 0);
    Due.is("reached", x.spy(7), 128);
  }

  private static void fullWanted() {
    Counted x = coast(8, 2, "reads lit%2");
    for (int i = 1; i <= 16; i++) {
      Due.is("want " + i, x.want(i < 9 ? i % 2 : 0), i);
      Due.is("status", x.status(), 0);
      Due.is("count", x.count(5), i);
    }
    Due.is("the last", x.plan(15), 255);
    Due.is("behind the last", x.plan(16), NONE);
    Due.is("no room", x.want(1), -5);
    Due.is("no room: status", x.status(), -5);
    Due.is("no room: count", x.count(5), 16);
    Due.is("no such news ahead of that", x.want(2), -1);
    counted("want", x, 7, 1, 0, 0, 1, 0);
    Due.is("the plan stays", x.plan(15), 255);
    Due.is("unwant", x.unwant(), 16);
    Due.is("room again", x.want(1), 1);
    Due.is("it can be that no code reads it", coast(1, 2).want(1), 1);
  }

  private static void unwanted() {
    Counted x = coast(1, 2, "reads lit");
    Due.is("nothing", x.unwant(), 0);
    x.want(1);
    x.want(0);
    Due.is("can't", x.cheap(0), NONE);
    Due.is("two", x.unwant(), 2);
    Due.is("nothing again", x.unwant(), 0);
    Due.is("nothing to send", x.cheap(0), 0);
    Due.is("by one way", x.cheap(1), 1);
    Due.is("without states", x.plan(0), NONE);
    Due.is("count", x.count(5), 0);
    Due.is("status", x.status(), 0);
  }

  private static void cheapest() {
    Counted x = coast(8, 2, "reads 1");
    x.want(1);
    Due.is("by no lamps", x.cheap(0), 0);
    Due.is("one way", x.cheap(1), 1);
    for (int lamp = 0; lamp < 8; lamp++) {
      x.oil(lamp, 0);
    }
    Due.is("any state", x.cheap(1), 256);
    for (int i = 2; i <= 12; i++) {
      x.want(1);
    }
    // Each LAMP with one of twelve or never: 13 to the 8th.
    Due.is("below the most", x.cheap(1), 815_730_721);
    x.want(1);
    Due.is("the most", x.cheap(1), 1_000_000_000);
    x.want(1);
    x.want(1);
    x.want(1);
    Due.is("no more than the most", x.cheap(1), 1_000_000_000);
    Due.is("for nothing", x.cheap(0), 0);
    x.oil(3, 1);
    Due.is("one stays dark: 17 to the 7th", x.cheap(1), 410_338_673);
    Due.is("what below", x.cheap(-1), NONE);
    Due.is("what above", x.cheap(2), NONE);
    x.read(0, 0);
    x.oil(3, 99);
    // Not the DARK for the first, so one less: those in which the first STATE is dark, 16 to the 7th.
    Due.is("without the dark", x.cheap(1), 410_338_673 - 268_435_456);
    x.unwant();
    x.want(0);
    x.want(1);
    x.want(0);
    Due.is("can't", x.cheap(0), NONE);
    Due.is("no way", x.cheap(1), 0);
    Due.is("status", x.status(), 0);
  }

  private static void planned() {
    Counted x = coast(3, 2);
    Due.code(x, 0, 9, 9, 1, 1, 9, 9, 0);
    x.want(1);
    Due.is("the least oil", x.plan(0), 4);
    x.want(0);
    // All LAMPS are lit then, whatever comes first.
    Due.is("the first of alike ones", x.plan(0), 3);
    Due.is("then all", x.plan(1), 7);
    Due.is("ways", x.cheap(1), 2);
    Due.is("behind the last", x.plan(2), NONE);
    Due.is("ahead of the first", x.plan(-1), NONE);
    x.want(0);
    Due.is("once more", x.plan(2), 7);
    x.want(1);
    for (int i = 0; i < 5; i++) {
      Due.is("can't " + i, x.plan(i), NONE);
    }
    Due.is("still wanted", x.count(5), 4);
    Counted y = coast(2, 2);
    Due.code(y, 0, 0, 0, 0);
    y.oil(0, 0);
    y.oil(1, 0);
    y.want(0);
    y.want(0);
    Due.is("by no lamps first", y.plan(0), 0);
    Due.is("by no lamps then", y.plan(1), 0);
    Due.is("in many ways", y.cheap(1), 9);
    plannedOneByOne();
  }

  private static void plannedOneByOne() {
    Counted x = coast(4, 2);
    x.read(1, 0);
    x.read(2, 0);
    x.read(6, 1);
    x.read(9, 1);
    x.want(0);
    x.want(1);
    Due.is("of two rows the first", x.plan(0), 1);
    Due.is("then what has all that was lit", x.plan(1), 9);
    Due.is("two rows", x.cheap(1), 2);
    x.oil(3, 2);
    Due.is("the cheaper row", x.plan(0), 2);
    Due.is("and its second", x.plan(1), 6);
    Counted y = coast(2, 2);
    Due.code(y, 9, 9, 0, 1);
    y.oil(0, 0);
    y.oil(1, 0);
    y.want(0);
    y.want(1);
    Due.is("without oil, yet by lamps", y.plan(0), 2);
    Due.is("without oil, yet by all lamps", y.plan(1), 3);
    Due.is("without oil", y.cheap(0), 0);
    Due.is("without oil, one way", y.cheap(1), 1);
  }

  /** One NEWS for each of eight LAMPS, so that a STATE tells what was drawn. */
  private static void draws() {
    int[] seeds = {0, 1_000_000, 999_999, 870_345, 327_279, 784_216, 241_150, 413_408};
    // 12,345; 9,036; 7,933; and, found from them, 0; 1,000,002; 1,000,001; 1,000,000; 1: modulo 8.
    int[] due = {1, 4, 5, 0, 2, 1, 0, 1};
    for (int i = 0; i < seeds.length; i++) {
      Counted x = coast(8, 8);
      for (int lamp = 0; lamp < 8; lamp++) {
        x.read(1 << lamp, lamp);
      }
      Due.is("night of seed " + seeds[i], x.night(seeds[i], 1, 0), 1);
      Due.is("drawn by seed " + seeds[i], x.drawn(0), 1 << due[i]);
    }
    Counted y = coast(8, 2, "reads lit%2");
    // 0 0 0 1 0 0 by the SEED 1,000,000.
    Due.is("six", y.night(1_000_000, 6, 0), 6);
    int[] states = {0, 0, 0, 1, 3, 3};
    for (int i = 0; i < states.length; i++) {
      Due.is("state " + i, y.drawn(i), states[i]);
    }
    // Behind 1,000,002 comes 11,242 (2 modulo 8, as before), behind 1,000,001 comes 10,139 (3).
    Counted z = coast(8, 8);
    z.read(4, 2);
    z.read(2, 1);
    z.read(2 | 8, 3);
    Due.is("behind the highest", z.night(327_279, 2, 0), 2);
    Due.is("behind the highest: the same", z.drawn(1), 4);
    Due.is("behind the highest but one", z.night(784_216, 2, 0), 2);
    Due.is("behind the highest but one: another", z.drawn(1), 10);
  }

  private static void drawnNights() {
    Counted x = coast(8, 2, "reads 0;reads 1 if lit=8");
    Due.is("of none", x.night(0, 0, 0), 0);
    Due.is("of none: unsent", x.drawn(NONE), NONE);
    Due.is("of none: state", x.drawn(0), NONE);
    Counted y = coast(1, 2, "reads lit");
    // 1 1 1 1 0: the fifth can't be.
    Due.is("of three", y.night(0, 3, 0), 3);
    Due.is("of three: unsent", y.drawn(NONE), NONE);
    Due.is("of four", y.night(0, 4, 0), 4);
    Due.is("of four: unsent", y.drawn(NONE), NONE);
    Due.is("of five", y.night(0, 5, 0), 4);
    Due.is("of five: unsent", y.drawn(NONE), 0);
    Due.is("of five: the fourth", y.drawn(3), 1);
    Due.is("of five: no fifth", y.drawn(4), NONE);
    Due.is("of the most", y.night(0, 24, 0), 4);
    Due.is("the most that can be sent", coast(1, 2, "reads lit").night(0, 24, 3), 4);
    Due.is("of one more", y.night(0, 25, 0), -1);
    Counted z = coast(8, 8);
    Due.is("no code", z.night(0, 24, 0), 0);
    Due.is("no code: unsent", z.drawn(NONE), 1);
    Due.is("no code: not refused", z.status(), 0);
    drawnToTheEnd();
  }

  /** Eight LAMPS and two NEWS can take 24 draws by some SEED. */
  private static void drawnToTheEnd() {
    for (int seed = 0; seed <= 2000; seed++) {
      long s = seed;
      int lit = 0;
      for (int i = 0; i < 24; i++) {
        s = (s * 1103 + 12345) % 1_000_003;
        lit += s % 2 == lit % 2 ? 0 : 1;
      }
      if (lit == 8) {
        Counted x = coast(8, 2, "reads lit%2");
        Due.is("all of 24", x.night(seed, 24, 0), 24);
        Due.is("all of 24: unsent", x.drawn(NONE), NONE);
        Due.is("all of 24: the last", x.drawn(23), 255);
        Due.is("all of 24: no more", x.drawn(24), NONE);
        Due.is("a log stays empty", x.count(4), 0);
        return;
      }
    }
    Due.so("some seed draws so", false);
  }

  /** What is drawn stands apart from the NIGHT, and a REFUSED one leaves the latest. */
  private static void latestNight() {
    Counted x = coast(3, 4, "reads mix");
    x.send(2, 0);
    Due.is("from the dark", x.night(0, 1, 0), 1);
    Due.is("its state", x.drawn(0), 1);
    Due.is("the night", x.log(NONE), 2);
    Due.is("the log", x.count(4), 1);
    Due.is("refused", x.night(1_000_001, 1, 0), -1);
    Due.is("the latest stays", x.drawn(0), 1);
    x.dawn();
    x.read(1, NONE);
    Due.is("it stays as it was", x.drawn(0), 1);
    Due.is("another", x.night(0, 1, 0), 1);
    Due.is("by another state", x.drawn(0), 6);
    Due.is("of none", x.night(0, 0, 0), 0);
    Due.is("has none", x.drawn(0), NONE);
  }

  private static void imagesKeep() {
    for (int k = 0; k < 2; k++) {
      Counted x = coast(3, 4, "reads mix");
      x.oil(0, 7);
      x.broken(1, 1);
      x.send(1, 0);
      x.send(2, 0);
      x.want(3);
      x.want(3);
      Due.is("image", x.image(k), 0);
      x.lamps(8);
      x.news(2);
      Due.law(x, "reads lit%2");
      x.learn(1);
      x.oil(0, 9);
      x.broken(7, 1);
      for (int i = 0; i < 5; i++) {
        x.send(1, 0);
        x.want(0);
      }
      Due.is("back", x.back(k), 0);
      Due.is("status", x.status(), 0);
      counted("back", x, 0, 3, 4, 1, 8, 2, 2);
      Due.is("state", x.log(NONE), 5);
      Due.is("log 0", x.log(0), 1);
      Due.is("log 1", x.log(1), 5);
      Due.is("log 2", x.log(2), NONE);
      Due.is("of", x.of(3), 3);
      Due.is("of none", x.of(8), NONE);
      Due.is("plan", x.plan(1), 4);
      Due.is("burnt", x.burnt(), 8);
      Due.is("lasts", x.lasts(0), 1);
      Due.is("next", x.next(0, 1, 1), 1);
      Due.is("law of then", x.learn(0), 8);
      Due.is("no law of later", x.learn(1), -2);
      Due.is("oil", x.oil(0, 1), 7);
      Due.is("broken", x.broken(1, 1), 1);
      Due.is("the other was not kept", x.back(1 - k), -2);
    }
  }

  private static void imagesDoNotKeep() {
    Counted x = coast(3, 4, "reads mix");
    Due.tape(x, 1, 2, 3);
    x.image(0);
    Due.is("the tape stays behind an image", x.count(6), 3);
    x.end(2);
    x.back(0);
    Due.is("the tape is no image's", x.count(6), 2);
    x.row();
    Due.law(x, "reads 1;");
    x.image(0);
    Due.law(x, "reads ?");
    Due.code(x, 0, 1, 2, 3, 3, 2, 1, 0, 9);
    Due.trail(x, 1, 7, 7);
    x.night(0, 10, 0);
    x.oil(9, 9);
    x.learn(9);
    x.make(1, 2, 1);
    x.row();
    counted("ahead", x, 7, 1, 1, 1, 0, 3);
    x.back(0);
    Due.is("fault", x.fault(), 6);
    Due.is("torn", x.torn(), 1);
    Due.is("trail", x.count(12), 3);
    Due.is("drawn", x.drawn(4), 7);
    Due.is("unsent", x.drawn(NONE), 2);
    counted("behind", x, 7, 1, 1, 1, 0, 3);
    Due.is("status", x.status(), 0);
    Due.is("the code", x.count(3), 2);
  }

  private static void imagesStay() {
    Counted x = coast(2, 2);
    x.image(0);
    for (int i = 0; i < 3; i++) {
      x.read(i, 1);
      x.oil(1, 5 + i);
      Due.law(x, "reads 1");
      x.send(1, 0);
      x.want(1);
      Due.is("back again", x.back(0), 0);
      counted("back again", x, 0, 2, 2, 0, 0, 0, 0);
      Due.is("oil again", x.oil(1, 9), 1);
    }
    x.read(3, 0);
    x.image(1);
    x.back(0);
    Due.is("0", x.of(3), NONE);
    x.back(1);
    Due.is("1", x.of(3), 0);
    x.image(0);
    x.read(3, 1);
    x.back(0);
    Due.is("0 anew", x.of(3), 0);
    Due.is("refused: image 2", x.image(2), -1);
    Due.is("refused: image -1", x.image(-1), -1);
    Due.is("refused: back 2", x.back(2), -1);
    Due.is("refused: back -1", x.back(-1), -1);
    Due.is("0 stays", x.back(0), 0);
    counted("images", x, 7, 4, 0, 0, 0, 0);
  }

  /** An IMAGE of a new object is one, too. */
  private static void imagesOfTheFirst() {
    Counted x = new Counted();
    Due.is("image", x.image(1), 0);
    x.lamps(8);
    x.news(8);
    Due.law(x, "reads 1");
    x.learn(0);
    Due.is("back", x.back(1), 0);
    counted("of the first", x, 0, 3, 4, 0, 0, 0, 0);
    Due.is("no law", x.learn(0), -2);
    Due.is("no state 8", x.read(8, 0), -1);
    Due.is("no news 4", x.read(0, 4), -1);
    x.lamps(8);
    Due.is("what was read above", x.of(255), NONE);
  }

  private static void counts() {
    Counted x = new Counted();
    Due.is("the first", x.count(0), 3);
    Due.is("the last", x.count(12), 0);
    Due.is("behind the last", x.count(13), NONE);
    Due.is("ahead of the first", x.count(-1), NONE);
    x.lamps(9);
    counted("-1", x, 7, 1, 0, 0, 0, 0);
    x.learn(0);
    counted("-2", x, 7, 1, 1, 0, 0, 0);
    x.send(0, 0);
    counted("-3", x, 7, 1, 1, 1, 0, 0);
    for (int i = 0; i < 17; i++) {
      x.want(0);
    }
    counted("-5", x, 7, 1, 1, 1, 1, 0);
    x.row();
    counted("-6", x, 7, 1, 1, 1, 1, 1);
    x.image(0);
    x.lamps(0);
    x.back(1);
    x.make(2, 2, 2);
    x.want(1);
    x.trail();
    counted("twice", x, 7, 2, 2, 2, 2, 2);
    x.back(0);
    counted("back", x, 7, 2, 2, 2, 2, 2);
    x.lamps(3);
    x.news(4);
    x.dawn();
    counted("anew", x, 7, 2, 2, 2, 2, 2);
  }

  /** Each call that status() tells of, not REFUSED behind one that was. */
  private static void statuses() {
    Counted x = coast(3, 4, "reads mix");
    Due.is("ahead", x.status(), 0);
    Due.is("a status asked twice", x.status(), 0);
    for (int call = 0; call < 15; call++) {
      if (call == 5 || call == 10) {
        Due.tape(x, 0, 1, 2, 3, 3, 2, 1, 0);
      } else if (call == 6) {
        Due.text(x, "reads 1");
      }
      x.learn(99);
      Due.is("refused ahead of call " + call, x.status(), -2);
      accepted(x, call);
      Due.is("call " + call, x.status(), 0);
      x.want(99);
      Due.is("refused behind call " + call, x.status(), -1);
    }
  }

  private static void accepted(Counted x, int call) {
    switch (call) {
      case 0: x.lamps(3); break;
      case 1: x.news(4); break;
      case 2: x.oil(0, 1); break;
      case 3: x.broken(0, 0); break;
      case 4: x.read(0, 0); break;
      case 5: x.row(); break;
      case 6: x.law(); break;
      case 7: x.learn(0); break;
      case 8: x.make(3, 4, 1); break;
      case 9: x.send(1, 0); break;
      case 10: x.trail(); break;
      case 11: x.want(0); break;
      case 12: x.night(0, 0, 0); break;
      case 13: x.image(0); break;
      default: x.back(0); break;
    }
  }

  /** All that hangs on the CODE and the LAMPS. */
  private static void asked(String when, Counted x, int... due) {
    long[] got = {x.lasts(0), x.mean(0, 0), x.mean(0, 1), x.next(0, 1, 0), x.next(0, 1, 1), x.next(0, 1, 2),
        x.next(0, 1, 3), x.failing(NONE), x.reached(NONE), x.safe(), x.hurts(0), x.cheap(0), x.cheap(1), x.plan(0)};
    for (int i = 0; i < due.length; i++) {
      Due.is(when + ", question " + i, got[i], due[i]);
    }
    Due.is(when + ", questions", due.length, got.length);
  }

  private static final int[] OF_MIX = {2, 89, 27, 1, 1, 1, 1, 3, 8, 0, 1, 1, 1, 1};
  private static final int[] OF_NO_CODE = {0, 0, 1, NONE, NONE, NONE, NONE, 1, 1, 8, 0, NONE, 0, NONE};
  private static final int[] OF_NOTHING_WANTED = {0, 0, 1, NONE, NONE, NONE, NONE, 1, 1, 8, 0, 0, 1, NONE};
  /** Every STATE is READ as 0: 0 can be SENT for ever, 1 never. */
  private static final int[] OF_ONE = {0, 1, 3, NONE, NONE, NONE, NONE, 1, 8, 8, 0, NONE, 0, NONE};

  private static Counted askedAhead() {
    Counted x = new Counted();
    Due.law(x, "reads mix");
    Due.law(x, "reads 0");
    Due.law(x, "reads 9");
    x.learn(0);
    x.want(1);
    asked("ahead", x, OF_MIX);
    return x;
  }

  /** What was asked ahead of a change is not answered behind it. */
  private static void askedAheadAndBehind() {
    Counted x = askedAhead();
    x.lamps(3);
    asked("behind lamps", x, OF_NOTHING_WANTED);
    x = askedAhead();
    x.news(4);
    asked("behind news", x, OF_NOTHING_WANTED);
    x = askedAhead();
    x.learn(1);
    asked("behind learn", x, OF_ONE);
    x.learn(2);
    asked("behind learn, none", x, OF_NO_CODE);
    x.learn(0);
    asked("behind learn, as ahead", x, OF_MIX);
    x = askedAhead();
    x.make(3, 4, 0);
    asked("behind make", x, OF_ONE);
    x = askedAhead();
    Due.code(x, 9);
    asked("behind row", x, OF_NO_CODE);
    x = askedAhead();
    x.image(0);
    x.lamps(3);
    asked("ahead of back", x, OF_NOTHING_WANTED);
    x.back(0);
    asked("behind back", x, OF_MIX);
    for (int state = 0; state < 8; state++) {
      x.read(state, 0);
    }
    asked("behind read", x, OF_ONE);
    askedBehindLamps();
  }

  private static void askedBehindLamps() {
    Counted x = askedAhead();
    x.broken(0, 1);
    x.broken(1, 1);
    x.broken(2, 1);
    asked("behind broken", x, 0, 1, 3, NONE, NONE, NONE, NONE, 1, 1, 8, 0, NONE, 0, NONE);
    for (int lamp = 0; lamp < 3; lamp++) {
      x.broken(lamp, 0);
    }
    asked("behind mended", x, OF_MIX);
    x.oil(0, 5);
    asked("behind oil", x, 2, 89, 27, 1, 6, 1, 1, 3, 8, 0, 1, 2, 1, 6);
    x.oil(0, 1);
    asked("behind oil, as ahead", x, OF_MIX);
    x.unwant();
    Due.is("behind unwant", x.cheap(0), 0);
    x.want(0);
    Due.is("behind want", x.cheap(0), 0);
    Due.is("behind want, plan", x.plan(0), 0);
    x.want(1);
    Due.is("behind want, two", x.cheap(0), 1);
    Due.is("behind want, two, plan", x.plan(1), 1);
  }

  /** Four LAMPS, two NEWS: 1 by 1, from which nothing comes, by 6, from which 0 comes by 14. */
  private static Counted crossing() {
    Counted x = coast(4, 2);
    Due.code(x, 0, 1, 9, 9, 9, 9, 1, 9, 9, 9, 9, 9, 9, 9, 0, 9);
    x.oil(0, 50);
    return x;
  }

  /** Each as the first question of all. */
  private static void askedFirst() {
    int[] due = {1, 6, 6, 6};
    for (int manner = 0; manner < 4; manner++) {
      Due.is("next first", crossing().next(0, 1, manner), due[manner]);
      Due.is("send first", crossing().send(1, manner), Integer.bitCount(due[manner]));
      Counted x = crossing();
      Due.is("night first", x.night(0, 1, manner), 1);
      Due.is("night first, state", x.drawn(0), due[manner]);
      x = crossing();
      Due.trail(x, due[manner]);
      Due.is("judge first", x.judge(manner), NONE);
      Due.is("rows first", crossing().rows(1, due[manner], manner), 1);
      Due.is("could first", crossing().could(1, due[manner], manner, 0, 1), 1);
    }
    Due.is("failing first", crossing().failing(NONE), 3);
    Due.is("failing first, its second", crossing().failing(1), 0);
    Due.is("failing first, its last", crossing().failing(2), 1);
    Due.is("lasts first", crossing().lasts(0), 2);
    Due.is("mean first", crossing().mean(0, 0), 5);
    Due.is("hurts first", crossing().hurts(1), 1);
    Counted y = crossing();
    y.want(1);
    Due.is("plan first", y.plan(0), 6);
    Counted z = crossing();
    z.want(1);
    Due.is("cheap first", z.cheap(0), 2);
  }

  /** 512 calls are answered as the first ones are. */
  private static void lastCall() {
    Counted x = new Counted();
    for (int i = 0; i < 510; i++) {
      Due.is("call " + i, x.lamps(9), -1);
    }
    Due.is("call 511", x.count(7), 510);
    Due.is("call 512", x.status(), -1);
  }
}
