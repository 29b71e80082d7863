/** One method for each promise: ordinary inputs, the edges that the document names, wrong inputs. */
public final class PromisesTest {
  private static final int NONE = LitCoast.NONE;
  private static final int[] ODD = {Integer.MIN_VALUE, -2, Integer.MAX_VALUE};

  public static void main(String[] args) {
    promise1();
    promise2();
    promise3();
    promise4();
    promise5();
    promise6();
    promise7();
    promise8();
    promise9();
    promise10();
    promise11();
    promise12();
    promise13();
    promise14();
    promise15();
    promise16();
    promise17();
    promise18();
    promise19();
    promise20();
    promise21();
    promise22();
    promise23();
    promise24();
    promise25();
    promise26();
    promise27();
    promise28();
    promise29();
    promise30();
    promise31();
    promise32();
    promise33();
    promise34();
    promise35();
    promise36();
    promise37();
    promise38();
    promise39();
    promise40();
    promise41();
    promise42();
    promise43();
    promise44();
    Due.close();
  }

  /** Three LAMPS, four NEWS, each STATE READ as the mix of its LAMPS: 0 1 2 3 3 2 1 0. */
  private static Counted mixed() {
    Counted x = new Counted();
    Due.law(x, "reads mix");
    x.learn(0);
    return x;
  }

  /** A coast of so many LAMPS and NEWS with a CODE by a LAW. */
  private static Counted coast(int lamps, int news, String law) {
    Counted x = new Counted();
    x.lamps(lamps);
    x.news(news);
    Due.law(x, law);
    x.learn(0);
    return x;
  }

  private static void refusedByNumber(Counted x, String what, int got) {
    Due.is(what, got, -1);
    Due.is(what + ", status", x.status(), -1);
  }

  private static void promise1() {
    Counted x = new Counted();
    Due.is("1 lamps", x.count(0), 3);
    Due.is("1 news", x.count(1), 4);
    for (int what = 2; what <= 12; what++) {
      Due.is("1 count " + what, x.count(what), 0);
    }
    for (int state = 0; state < 8; state++) {
      Due.is("1 of " + state, x.of(state), NONE);
    }
    for (int lamp = 0; lamp < 3; lamp++) {
      Due.is("1 oil", x.oil(lamp, 1), 1);
      Due.is("1 broken", x.broken(lamp, 0), 0);
    }
    Due.is("1 status", new Counted().status(), 0);
    Due.is("1 dark", x.log(NONE), 0);
    Due.is("1 fault", x.fault(), NONE);
    Due.is("1 NONE", LitCoast.NONE, -1);
  }

  private static void promise2() {
    Counted x = mixed();
    x.oil(1, 7);
    x.broken(2, 1);
    x.send(1, 0);
    x.want(3);
    Due.is("2 lamps", x.lamps(8), 3);
    Due.is("2 status", x.status(), 0);
    Due.is("2 count", x.count(0), 8);
    Due.is("2 read", x.count(3), 0);
    Due.is("2 log", x.count(4), 0);
    Due.is("2 wanted", x.count(5), 0);
    Due.is("2 dark", x.log(NONE), 0);
    Due.is("2 oil", x.oil(1, 2), 1);
    Due.is("2 oil of a new one", x.oil(7, 2), 1);
    Due.is("2 broken", x.broken(2, 0), 0);
    Due.is("2 laws stay", x.count(2), 1);
    Due.is("2 news stay", x.count(1), 4);
    Due.is("2 one", x.lamps(1), 8);
    Due.code(x, 0, 1);
    Due.is("2 the same", x.lamps(1), 1);
    Due.is("2 the same forgets", x.of(1), NONE);
    Due.code(x, 0, 1);
    refusedByNumber(x, "2 none", x.lamps(0));
    refusedByNumber(x, "2 nine", x.lamps(9));
    for (int odd : ODD) {
      refusedByNumber(x, "2 odd", x.lamps(odd));
    }
    Due.is("2 refused changes nothing", x.of(1), 1);
  }

  private static void promise3() {
    Counted x = mixed();
    x.oil(1, 7);
    x.broken(2, 1);
    x.send(1, 0);
    x.want(3);
    Due.is("3 news", x.news(8), 4);
    Due.is("3 status", x.status(), 0);
    Due.is("3 count", x.count(1), 8);
    Due.is("3 read", x.count(3), 0);
    Due.is("3 log", x.count(4), 0);
    Due.is("3 wanted", x.count(5), 0);
    Due.is("3 dark", x.log(NONE), 0);
    Due.is("3 oil stays", x.oil(1, 7), 7);
    Due.is("3 broken stays", x.broken(2, 1), 1);
    Due.is("3 two", x.news(2), 8);
    x.read(0, 1);
    refusedByNumber(x, "3 one", x.news(1));
    refusedByNumber(x, "3 nine", x.news(9));
    for (int odd : ODD) {
      refusedByNumber(x, "3 odd", x.news(odd));
    }
    Due.is("3 refused changes nothing", x.of(0), 1);
  }

  private static void promise4() {
    Counted x = new Counted();
    Due.is("4 oil", x.oil(0, 99), 1);
    Due.is("4 again", x.oil(0, 0), 99);
    Due.is("4 none", x.oil(0, 5), 0);
    refusedByNumber(x, "4 too much", x.oil(0, 100));
    refusedByNumber(x, "4 below none", x.oil(0, -1));
    refusedByNumber(x, "4 no lamp", x.oil(3, 1));
    refusedByNumber(x, "4 no lamp below", x.oil(-1, 1));
    for (int odd : ODD) {
      refusedByNumber(x, "4 odd lamp", x.oil(odd, 1));
      refusedByNumber(x, "4 odd oil", x.oil(0, odd));
    }
    Due.is("4 stays", x.oil(0, 5), 5);
    Due.is("4 status", x.status(), 0);
    Counted y = mixed();
    y.oil(0, 5);
    Due.is("4 a keeper knows", y.next(0, 1, 1), 6);
    y.oil(1, 50);
    Due.is("4 a keeper learns", y.next(0, 1, 1), 1);
  }

  private static void promise5() {
    Counted x = mixed();
    Due.is("5 broken", x.broken(0, 1), 0);
    Due.is("5 was", x.broken(0, 1), 1);
    Due.is("5 around it", x.next(0, 1, 0), 6);
    Due.is("5 mended", x.broken(0, 0), 1);
    Due.is("5 whole", x.next(0, 1, 0), 1);
    refusedByNumber(x, "5 what", x.broken(0, 2));
    refusedByNumber(x, "5 below", x.broken(0, -1));
    refusedByNumber(x, "5 no lamp", x.broken(3, 1));
    refusedByNumber(x, "5 no lamp below", x.broken(-1, 1));
    for (int odd : ODD) {
      refusedByNumber(x, "5 odd lamp", x.broken(odd, 1));
      refusedByNumber(x, "5 odd", x.broken(0, odd));
    }
    x.send(1, 0);
    x.broken(0, 1);
    Due.is("5 what is lit stays lit", x.log(NONE), 1);
    Due.is("5 and sends", x.send(2, 0), 1);
  }

  private static void promise6() {
    Counted x = new Counted();
    Due.is("6 read", x.read(5, 3), NONE);
    Due.is("6 not refused", x.status(), 0);
    Due.is("6 was", x.read(5, 0), 3);
    Due.is("6 of", x.of(5), 0);
    Due.is("6 not", x.read(5, NONE), 0);
    Due.is("6 not status", x.status(), 0);
    Due.is("6 of none", x.of(5), NONE);
    refusedByNumber(x, "6 news", x.read(5, 4));
    refusedByNumber(x, "6 news below", x.read(5, -2));
    refusedByNumber(x, "6 state", x.read(8, 0));
    refusedByNumber(x, "6 state below", x.read(-1, 0));
    for (int odd : ODD) {
      refusedByNumber(x, "6 odd state", x.read(odd, 1));
      refusedByNumber(x, "6 odd news", x.read(0, odd));
    }
    Due.is("6 count", x.count(3), 0);
    Counted y = mixed();
    y.send(1, 0);
    Due.is("6 lasts", y.lasts(0), 2);
    y.read(7, 1);
    Due.is("6 lasts less", y.lasts(0), 1);
    Due.is("6 the night goes on", y.log(NONE), 1);
  }

  private static void promise7() {
    Counted x = mixed();
    int[] due = {0, 1, 2, 3, 3, 2, 1, 0};
    for (int state = 0; state < 8; state++) {
      Due.is("7 of " + state, x.of(state), due[state]);
    }
    x.read(4, NONE);
    Due.is("7 not read", x.of(4), NONE);
    Due.is("7 beyond", x.of(8), NONE);
    Due.is("7 below", x.of(-1), NONE);
    for (int odd : ODD) {
      Due.is("7 odd", x.of(odd), NONE);
    }
    Due.is("7 status is not its own", x.status(), 0);
  }

  private static void promise8() {
    Counted x = new Counted();
    Due.is("8 twenty", x.feed(0x00010203, 0x04050607, 0x00010203, 0x00FFFFFF, -1), 20);
    x.end(8);
    Due.is("8 read", x.row(), 4);
    for (int state = 0; state < 8; state++) {
      Due.is("8 highest first", x.of(state), state < 4 ? state : NONE);
    }
    for (int i = 1; i <= 20; i++) {
      Due.is("8 feed", x.feed(0, 0, 0, 0, 0), 20 * i);
    }
    Due.is("8 no more", x.feed(0, 0, 0, 0, 0), NONE);
    Due.is("8 stays", x.count(6), 400);
    Due.is("8 end", x.end(381), 381);
    Due.is("8 one too many", x.feed(0, 0, 0, 0, 0), NONE);
    Due.is("8 end", x.end(380), 380);
    Due.is("8 just", x.feed(0, 0, 0, 0, 0), 400);
    Due.is("8 not refused", x.status(), 0);
    Due.is("8 not counted", x.count(7), 0);
  }

  private static void promise9() {
    Counted x = new Counted();
    Due.is("9 of nothing", x.end(0), 0);
    Due.is("9 not so many", x.end(1), NONE);
    x.feed(0x01010101, 0x02020202, 0, 0, 0);
    Due.is("9 more", x.end(21), NONE);
    Due.is("9 all", x.end(20), 20);
    Due.is("9 below", x.end(-1), NONE);
    for (int odd : ODD) {
      Due.is("9 odd", x.end(odd), NONE);
    }
    Due.is("9 stays", x.count(6), 20);
    Due.is("9 five", x.end(5), 5);
    Due.is("9 cut", x.count(6), 5);
    x.feed(0x03030303, 0, 0, 0, 0);
    x.end(6);
    x.row();
    Due.is("9 first alone", x.of(4), 2);
    Due.is("9 then fed", x.of(5), 3);
    Due.is("9 not refused", x.status(), 0);
  }

  private static void promise10() {
    Counted x = mixed();
    Due.is("10 empty", x.row(), -6);
    Due.is("10 status", x.status(), -6);
    Due.is("10 stays", x.of(7), 0);
    Due.is("10 row", Due.code(x, 3, 4, 255, 0), 2);
    Due.is("10 status", x.status(), 0);
    Due.is("10 news", x.of(0), 3);
    Due.is("10 not news", x.of(1), NONE);
    Due.is("10 not news at all", x.of(2), NONE);
    Due.is("10 news 0", x.of(3), 0);
    Due.is("10 no byte", x.of(7), NONE);
    Due.is("10 tape", x.count(6), 0);
    Due.is("10 all", Due.code(x, 0, 1, 2, 3, 0, 1, 2, 3), 8);
    Due.is("10 lasts", x.of(7), 3);
    Due.is("10 none", Due.code(x, 9), 0);
    x.lamps(8);
    int[] many = new int[256];
    many[255] = 3;
    Due.is("10 the most", Due.code(x, many), 256);
    Due.is("10 the last", x.of(255), 3);
  }

  private static void promise11() {
    Counted x = new Counted();
    Due.is("11 ahead", x.torn(), 0);
    Due.code(x, 0, 1, 2, 3, 0, 1, 2, 3, 0, 1);
    Due.is("11 torn", x.torn(), 2);
    x.row();
    Due.is("11 refused", x.torn(), 2);
    x.image(0);
    Due.code(x, 0, 1, 2, 3, 0, 1, 2, 3);
    Due.is("11 none", x.torn(), 0);
    Due.code(x, 0, 1, 2, 3, 0, 1, 2, 3, 9);
    x.back(0);
    Due.is("11 no image keeps it", x.torn(), 1);
    x.lamps(1);
    Due.code(x, new int[400]);
    Due.is("11 most", x.torn(), 398);
    Due.tape(x, new int[60]);
    x.trail();
    Due.is("11 a trail is no row", x.torn(), 398);
  }

  private static void promise12() {
    Counted x = new Counted();
    Due.is("12 empty", x.law(), -6);
    Due.is("12 status", x.status(), -6);
    Due.is("12 fault at the end", x.fault(), 0);
    Due.is("12 blanks", Due.law(x, "    "), -6);
    Due.is("12 fault behind blanks", x.fault(), 4);
    for (int i = 0; i < 6; i++) {
      Due.is("12 law", Due.law(x, "reads " + (5 - i)), i);
      Due.is("12 status", x.status(), 0);
      Due.is("12 tape", x.count(6), 0);
      Due.is("12 count", x.count(2), i + 1);
    }
    Due.law(x, "reads");
    Due.is("12 no room", Due.law(x, "reads"), -5);
    Due.is("12 status", x.status(), -5);
    Due.is("12 tape", x.count(6), 0);
    Due.is("12 no room for nothing", x.law(), -5);
    Due.is("12 count", x.count(2), 6);
    x.learn(4);
    Due.is("12 they stay", x.of(3), 1);
    Counted y = new Counted();
    Due.law(y, "what");
    Due.is("12 tape behind a fault", y.count(6), 0);
    Due.is("12 no law", y.count(2), 0);
  }

  private static void faultAt(int place, String text) {
    Counted x = new Counted();
    Due.is("13 law of '" + text + "'", Due.law(x, text), place == NONE ? 0 : -6);
    Due.is("13 fault of '" + text + "'", x.fault(), place);
  }

  private static void promise13() {
    faultAt(NONE, "reads 1000");
    faultAt(NONE, "reads 0001000");
    faultAt(NONE, "  reads1;reads2  ");
    faultAt(NONE, "reads state+lit-sum*mix/first%last+lamps+news");
    faultAt(NONE, "reads 1 if not not not lit=1 and(lit<2 or 1>[lit+1]*2)");
    faultAt(6, "reads 1001");
    faultAt(6, "reads 10000000000000000000000000000001");
    faultAt(0, "Reads 1");
    faultAt(0, "1");
    faultAt(0, "read 1");
    faultAt(0, "readsmix");
    faultAt(0, "beads 1");
    faultAt(6, "reads bit");
    faultAt(6, "reads litz");
    faultAt(6, "reads zlit");
    faultAt(9, "reads lit{");
    faultAt(9, "reads lit`");
    faultAt(9, "reads 100:");
    faultAt(0, "; reads 1");
    faultAt(5, "reads");
    faultAt(7, "reads  ");
    faultAt(6, "reads -1");
    faultAt(6, "reads (1)");
    faultAt(6, "reads x");
    faultAt(6, "reads if");
    faultAt(8, "reads 1 2");
    faultAt(7, "reads 1]");
    faultAt(8, "reads 1;");
    faultAt(9, "reads 1; ");
    faultAt(8, "reads 1;;");
    faultAt(8, "reads [1");
    faultAt(8, "reads [1)");
    faultAt(7, "reads []");
    faultAt(8, "reads 1+");
    faultAt(8, "reads 1+*2");
    faultAt(10, "reads 1 if");
    faultAt(12, "reads 1 if 1");
    faultAt(13, "reads 1 if 1 and 1=1");
    faultAt(12, "reads 1 if 1;");
    faultAt(14, "reads 1 if 1=1=1");
    faultAt(13, "reads 1 if 1<=1");
    faultAt(18, "reads 1 if (1=1)  + 2");
    faultAt(15, "reads 1 if (1=1");
    faultAt(15, "reads 1 if (1=1]");
    faultAt(17, "reads 1 if 1=1 or");
    faultAt(18, "reads 1 if 1=1 or and");
    faultAt(15, "reads 1 if 1=1 if 2=2");
    faultAt(14, "reads 1 if not");
    faultAt(11, "reads 1 if )");
    faultAt(12, "reads 1 if [(lit=1)]=1");
    faultAt(15, "reads 1 if [lit=1]=1");
    faultAt(7, "reads 1\t");
    faultAt(7, "reads 1" + (char) 0);
    faultAt(7, "reads 1" + (char) 233);
    promise13Limits();
    Counted x = new Counted();
    Due.law(x, "reads 1 x");
    x.row();
    x.trail();
    Due.is("13 stays", x.fault(), 8);
    x.image(0);
    Due.law(x, "reads 1");
    Due.is("13 without", x.fault(), NONE);
    x.back(0);
    Due.is("13 no image keeps it", x.fault(), NONE);
    for (int i = 0; i < 6; i++) {
      Due.law(x, "reads 1");
    }
    Due.law(x, "x");
    Due.is("13 not read", x.fault(), NONE);
  }

  private static void promise13Limits() {
    faultAt(NONE, Due.times("reads 1;", 11) + "reads 1");
    faultAt(96, Due.times("reads 1;", 12) + "reads 1");
    faultAt(97, Due.times("reads 1;", 12) + " 7");
    faultAt(96, Due.times("reads 1;", 12));
    faultAt(95, Due.times("reads 1;", 11) + "reads 1,");
    faultAt(NONE, "reads " + Due.times("1+", 49) + "1");
    faultAt(106, "reads " + Due.times("1+", 50) + "1");
    faultAt(106, "reads " + Due.times("1+", 50) + "1]");
    faultAt(107, "reads " + Due.times("1+", 50) + "[1]");
    faultAt(NONE, "reads " + Due.times("1+", 24) + "1;reads " + Due.times("1+", 24) + "1");
    faultAt(115, "reads " + Due.times("1+", 24) + "1;reads " + Due.times("1+", 24) + "1 if 1=1");
    faultAt(NONE, "reads " + Due.times("[", 8) + "1" + Due.times("]", 8));
    faultAt(14, "reads " + Due.times("[", 9) + "1" + Due.times("]", 9));
    faultAt(NONE, "reads 1 if " + Due.times("(", 8) + "1=1" + Due.times(")", 8));
    faultAt(19, "reads 1 if " + Due.times("(", 9) + "1=1" + Due.times(")", 9));
    faultAt(NONE, "reads 1 if " + Due.times("(", 4) + Due.times("[", 4) + "1" + Due.times("]", 4) + "=1" + Due.times(")", 4));
    faultAt(19, "reads 1 if " + Due.times("(", 4) + Due.times("[", 5) + "1" + Due.times("]", 5) + "=1" + Due.times(")", 4));
    faultAt(NONE, "reads " + Due.times("[1]+", 20) + "1");
    faultAt(NONE, "reads 1 if " + Due.times("not ", 96) + "1=1");
    faultAt(NONE, Due.times(" ", 393) + "reads 1");
    faultAt(0, Due.times(";", 400));
    faultAt(400, Due.times(" ", 394) + "reads ");
    faultAt(400, "reads " + Due.times("[ ", 8) + Due.times(" ", 378));
    Counted x = coast(3, 4, "reads 1 if " + Due.times("not ", 95) + "1=2");
    Due.is("13 many nots", x.count(3), 8);
  }

  private static void tells(String law, int... due) {
    Counted x = new Counted();
    Due.is("14 law of '" + law + "'", Due.law(x, law), 0);
    int many = 0;
    for (int news : due) {
      many += news == NONE ? 0 : 1;
    }
    Due.is("14 learn of '" + law + "'", x.learn(0), many);
    Due.is("14 status", x.status(), 0);
    for (int state = 0; state < 8; state++) {
      Due.is("14 of " + state + " by '" + law + "'", x.of(state), due[state]);
    }
  }

  private static void promise14() {
    tells("reads mix", 0, 1, 2, 3, 3, 2, 1, 0);
    tells("reads state", 0, 1, 2, 3, NONE, NONE, NONE, NONE);
    tells("reads lit", 0, 1, 1, 2, 1, 2, 2, 3);
    tells("reads sum", 0, 1, 2, 3, 3, NONE, NONE, NONE);
    tells("reads first", NONE, 0, 1, 0, 2, 0, 1, 0);
    tells("reads last", NONE, 0, 1, 1, 2, 2, 2, 2);
    tells("reads first+1", 0, 1, 2, 1, 3, 1, 2, 1);
    tells("reads lamps", 3, 3, 3, 3, 3, 3, 3, 3);
    tells("reads news-1", 3, 3, 3, 3, 3, 3, 3, 3);
    tells("reads news", NONE, NONE, NONE, NONE, NONE, NONE, NONE, NONE);
    tells("reads 0-1", NONE, NONE, NONE, NONE, NONE, NONE, NONE, NONE);
    tells("reads state%4", 0, 1, 2, 3, 0, 1, 2, 3);
    tells("reads 1+2*1-7/2+3%2", 1, 1, 1, 1, 1, 1, 1, 1);
    tells("reads [1+1]*1", 2, 2, 2, 2, 2, 2, 2, 2);
    tells("reads 10-5-3", 2, 2, 2, 2, 2, 2, 2, 2);
    tells("reads [0-7]/2+4", 1, 1, 1, 1, 1, 1, 1, 1);
    tells("reads [0-7]%2+1", 0, 0, 0, 0, 0, 0, 0, 0);
    tells("reads 6/state", NONE, NONE, 3, 2, 1, 1, 1, 0);
    tells("reads 6%state", NONE, 0, 0, 0, 2, 1, 0, NONE);
    tells("reads 1;reads 2 if lit=1", 1, 2, 2, 1, 2, 1, 1, 1);
    tells("reads 1;reads 9 if lit=1", 1, NONE, NONE, 1, NONE, 1, 1, 1);
    tells("reads 1;reads 6/state", 1, NONE, 3, 2, 1, 1, 1, 0);
    tells("reads 1;reads 2 if 1/state=0", 1, 1, 2, 2, 2, 2, 2, 2);
    tells("reads 1 if lit=1 or lit=2 and first=0", NONE, 1, 1, 1, 1, 1, NONE, NONE);
    tells("reads 1 if (lit=1 or lit=2) and first=0", NONE, 1, NONE, 1, NONE, 1, NONE, NONE);
    tells("reads 1 if not lit=1 and first=0", NONE, NONE, NONE, 1, NONE, 1, NONE, 1);
    tells("reads 1 if not (lit=1 and first=0)", 1, NONE, 1, 1, 1, 1, 1, 1);
    tells("reads 1 if state>2 and state<5", NONE, NONE, NONE, 1, 1, NONE, NONE, NONE);
    tells("reads 1 if state=0 or 1/state=0", 1, NONE, 1, 1, 1, 1, 1, 1);
    tells("reads 1 if 1/state=0 or state=0", NONE, NONE, 1, 1, 1, 1, 1, 1);
    tells("reads 1 if state>0 and 1/state=1", NONE, 1, NONE, NONE, NONE, NONE, NONE, NONE);
    tells("reads 1 if not (state>0 and 1/state=1)", 1, NONE, 1, 1, 1, 1, 1, 1);
    tells("reads 1 if not (1/state=1 and state>0)", NONE, NONE, 1, 1, 1, 1, 1, 1);
    tells("reads 1 if 1000*1000*1000>0", 1, 1, 1, 1, 1, 1, 1, 1);
    tells("reads 1 if 1000*1000*1000+1>0", NONE, NONE, NONE, NONE, NONE, NONE, NONE, NONE);
    tells("reads 1 if 0-1000*1000*1000<0", 1, 1, 1, 1, 1, 1, 1, 1);
    tells("reads 1 if 0-1000*1000*1000-1<0", NONE, NONE, NONE, NONE, NONE, NONE, NONE, NONE);
    tells("reads 1000*1000*1000+1-1000*1000*1000", NONE, NONE, NONE, NONE, NONE, NONE, NONE, NONE);
    tells("reads 1+1000*1000*1000-1000*1000*1000", NONE, NONE, NONE, NONE, NONE, NONE, NONE, NONE);
    tells("reads 1+[1000*1000*1000-1000*1000*1000]", 1, 1, 1, 1, 1, 1, 1, 1);
    Counted x = mixed();
    for (int none : new int[] {1, 6, -1, Integer.MAX_VALUE, Integer.MIN_VALUE}) {
      Due.is("14 no such", x.learn(none), -2);
      Due.is("14 status", x.status(), -2);
    }
    Due.is("14 stays", x.of(3), 3);
    x.lamps(8);
    x.news(8);
    Due.is("14 learns anew", x.learn(0), 128);
    Due.is("14 by more lamps", x.of(128 + 64), NONE);
    Due.is("14 by seven", x.of(64), 7);
  }

  private static void promise15() {
    Counted x = mixed();
    Due.is("15 fewest", x.next(0, 3, 0), 4);
    Due.is("15 stays", x.next(1, 1, 0), 1);
    Due.is("15 of alike ones", coast(3, 2, "reads 1 if lit=1").next(0, 1, 0), 1);
    Due.is("15 can't", x.next(7, 1, 0), NONE);
    x.oil(2, 9);
    Due.is("15 least oil", x.next(0, 3, 1), 3);
    Due.is("15 fewest in spite of it", x.next(0, 3, 0), 4);
    x.oil(0, 0);
    x.oil(1, 0);
    Due.is("15 for nothing, the lowest", x.next(0, 0, 1), 0);
    Due.is("15 lasting", x.next(0, 3, 2), 4);
    Due.is("15 mean", x.next(0, 3, 3), 4);
    x.broken(2, 1);
    Due.is("15 around a broken one", x.next(0, 3, 0), 3);
    Due.is("15 lit ahead", x.next(4, 1, 0), 6);
    Due.is("15 lit ahead, too", x.next(4, 2, 0), 5);
    lastingThenFewest();
    for (int manner = 0; manner < 4; manner++) {
      Due.is("15 state", x.next(8, 0, manner), NONE);
      Due.is("15 state below", x.next(-1, 0, manner), NONE);
      Due.is("15 news", x.next(0, 4, manner), NONE);
      Due.is("15 news below", x.next(0, -1, manner), NONE);
    }
    Due.is("15 manner", x.next(0, 0, 4), NONE);
    Due.is("15 manner below", x.next(0, 0, -1), NONE);
    for (int odd : ODD) {
      Due.is("15 odd state", x.next(odd, 0, 0), NONE);
      Due.is("15 odd news", x.next(0, odd, 0), NONE);
      Due.is("15 odd manner", x.next(0, 0, odd), NONE);
    }
  }

  /**
   * Two NEWS, three LAMPS: 1 is READ of 1, 2, 6; 0 of 0, 7. From 1 and 2 comes 7 alone (and 6 from
   * 2), from 6 also 7: all last 1. So MANNER 2 takes fewer LAMPS, then the lowest.
   */
  private static void lastingThenFewest() {
    Counted x = new Counted();
    x.news(2);
    Due.code(x, 0, 9, 9, 1, 1, 9, 9, 0);
    Due.is("15 lasting, then fewest", x.next(0, 1, 2), 4);
    Due.is("15 mean, then lowest", x.next(0, 1, 3), 3);
    Due.code(x, 0, 1, 9, 9, 9, 9, 1, 0);
    x.broken(1, 0);
    Due.is("15 one lamp", x.next(0, 1, 2), 1);
    // From 1 nothing can be SENT if 7 is the only other and its LAMPS from 1 are BROKEN.
    x.lamps(4);
    Due.code(x, 0, 1, 9, 9, 9, 9, 1, 9, 9, 9, 9, 9, 9, 9, 0, 9);
    Due.is("15 fewest does not last", x.next(0, 1, 0), 1);
    Due.is("15 the most lasting does", x.next(0, 1, 2), 6);
    Due.is("15 the greatest mean does", x.next(0, 1, 3), 6);
  }

  private static void promise16() {
    Counted x = mixed();
    Due.is("16 two", x.ways(0, 1), 2);
    Due.is("16 with itself", x.ways(0, 0), 2);
    Due.is("16 itself alone", x.ways(7, 0), 1);
    Due.is("16 none", x.ways(7, 1), 0);
    x.broken(0, 1);
    Due.is("16 broken", x.ways(0, 1), 1);
    Due.is("16 broken and lit", x.ways(1, 1), 1);
    Due.is("16 state", x.ways(8, 1), NONE);
    Due.is("16 state below", x.ways(-1, 1), NONE);
    Due.is("16 news", x.ways(0, 4), NONE);
    Due.is("16 news below", x.ways(0, -1), NONE);
    for (int odd : ODD) {
      Due.is("16 odd state", x.ways(odd, 0), NONE);
      Due.is("16 odd news", x.ways(0, odd), NONE);
    }
    Due.is("16 many", coast(8, 2, "reads 1").ways(0, 1), 256);
  }

  private static void promise17() {
    Counted x = mixed();
    int[] due = {2, 1, 1, 0, 1, 0, 0, 0};
    for (int state = 0; state < 8; state++) {
      Due.is("17 lasts " + state, x.lasts(state), due[state]);
    }
    x.read(0, NONE);
    Due.is("17 any if it is not read", x.lasts(0), 1);
    x.read(0, 0);
    Due.is("17 as before", x.lasts(0), 2);
    Counted y = coast(8, 2, "reads lit%2");
    for (int state = 0; state < 256; state++) {
      Due.is("17 by twos", y.lasts(state), 8 - Integer.bitCount(state));
    }
    y.broken(3, 1);
    Due.is("17 broken", y.lasts(0), 7);
    Due.is("17 broken and lit", y.lasts(8), 7);
    Due.is("17 eight lamps, eight news", coast(8, 8, "reads state%8").lasts(0), 1);
    Due.is("17 state", x.lasts(8), NONE);
    Due.is("17 state below", x.lasts(-1), NONE);
    for (int odd : ODD) {
      Due.is("17 odd", x.lasts(odd), NONE);
    }
    Due.is("17 no code", new Counted().lasts(0), 0);
  }

  private static void mean(Counted x, int state, long above, long below) {
    Due.is("18 upper of " + state, x.mean(state, 0), above);
    Due.is("18 lower of " + state, x.mean(state, 1), below);
  }

  private static void promise18() {
    Counted x = mixed();
    mean(x, 7, 1, 3);
    mean(x, 6, 7, 9);
    mean(x, 1, 53, 27);
    mean(x, 0, 89, 27);
    x.read(0, NONE);
    // Each of 0, 1, 2, 3 by 7, 1, 2, 4: (4/3 + 3 times 80/27) / 4.
    mean(x, 0, 23, 9);
    x.broken(0, 1);
    x.broken(1, 1);
    x.broken(2, 1);
    mean(x, 0, 0, 1);
    mean(x, 7, 1, 3);
    mean(new Counted(), 0, 0, 1);
    Counted y = coast(8, 2, "reads lit%2");
    mean(y, 255, 1, 1);
    mean(y, 0, 17, 1);
    Counted one = coast(1, 8, "reads 5 if lit=1");
    mean(one, 1, 1, 7);
    mean(one, 0, 1, 7);
    one.read(0, 2);
    // (1 + 1 + 1/7) / 7
    mean(one, 0, 15, 49);
    Due.is("18 state", x.mean(8, 0), NONE);
    Due.is("18 state below", x.mean(-1, 0), NONE);
    Due.is("18 what", x.mean(0, 2), NONE);
    Due.is("18 what below", x.mean(0, -1), NONE);
    for (int odd : ODD) {
      Due.is("18 odd state", x.mean(odd, 0), NONE);
      Due.is("18 odd what", x.mean(0, odd), NONE);
    }
  }

  private static void promise19() {
    Counted x = mixed();
    Due.is("19 all", x.reached(NONE), 8);
    Due.is("19 one", x.reached(5), 1);
    x.read(5, NONE);
    Due.is("19 not read", x.reached(5), 0);
    Due.is("19 seven", x.reached(NONE), 7);
    x.read(0, NONE);
    Due.is("19 the dark", x.reached(0), 1);
    x.broken(1, 1);
    Due.is("19 broken", x.reached(2), 0);
    Due.is("19 whole", x.reached(4), 1);
    Due.is("19 three", x.reached(NONE), 3);
    Due.is("19 state", x.reached(8), NONE);
    Due.is("19 state below", x.reached(-2), NONE);
    for (int odd : ODD) {
      Due.is("19 odd", x.reached(odd), NONE);
    }
  }

  private static void promise20() {
    Counted x = mixed();
    Due.is("20 many", x.failing(NONE), 3);
    Due.is("20 first", x.failing(0), 1);
    Due.is("20 second", x.failing(1), 0);
    Due.is("20 last", x.failing(2), 1);
    Due.is("20 beyond", x.failing(3), NONE);
    for (int odd : ODD) {
      Due.is("20 odd", x.failing(odd), NONE);
    }
    Counted none = new Counted();
    Due.is("20 at once", none.failing(NONE), 1);
    Due.is("20 the lowest", none.failing(0), 0);
    none.read(0, 0);
    Due.is("20 other than what is read", none.failing(0), 1);
    Counted y = coast(8, 2, "reads lit%2");
    Due.is("20 the longest", y.failing(NONE), 9);
    Due.is("20 its last", y.failing(8), 1);
    Due.is("20 behind its last", y.failing(9), NONE);
    // 1 by LAMP 0 or 1; 2 by both: from the DARK 0 can't be SENT at all.
    Counted z = new Counted();
    Due.code(z, 3, 1, 1, 2);
    Due.is("20 none ahead of least", z.failing(NONE), 1);
    Due.is("20 that for which there is none", z.failing(0), 0);
  }

  private static void promise21() {
    Counted x = mixed();
    Due.is("21 hurts", x.hurts(0), 1);
    Due.is("21 not for good", x.lasts(0), 2);
    Due.is("21 not broken", x.broken(0, 0), 0);
    Counted y = coast(4, 2, "reads lit%2");
    Due.is("21 by twos", y.hurts(3), 3);
    y.broken(3, 1);
    Due.is("21 the same", y.hurts(3), 3);
    Due.is("21 besides", y.hurts(0), 2);
    Due.is("21 lamp", y.hurts(4), NONE);
    Due.is("21 lamp below", y.hurts(-1), NONE);
    for (int odd : ODD) {
      Due.is("21 odd", y.hurts(odd), NONE);
    }
    Due.is("21 status is not its own", y.status(), 0);
  }

  private static void promise22() {
    Counted x = new Counted();
    Due.is("22 all", x.codes(3, 4, 0), 65536);
    Due.is("22 all of three", x.codes(3, 3, 0), 6561);
    Due.is("22 all of two", x.codes(2, 4, 0), 256);
    Due.is("22 once", x.codes(1, 2, 1), 2);
    Due.is("22 twice", x.codes(2, 2, 2), 6);
    Due.is("22 never", x.codes(1, 3, 1), 0);
    Due.is("22 beyond", x.codes(3, 2, 4), 0);
    Due.is("22 far beyond", x.codes(3, 4, 8), 0);
    x.broken(0, 1);
    Due.is("22 no lamp is broken", x.codes(3, 2, 3), new Counted().codes(3, 2, 3));
    for (int t = 0; t <= 8; t++) {
      Due.is("22 by hand, 2 2 " + t, x.codes(2, 2, t), countByHand(2, 2, t));
      Due.is("22 by hand, 3 2 " + t, x.codes(3, 2, t), countByHand(3, 2, t));
      Due.is("22 by hand, 3 3 " + t, x.codes(3, 3, t), countByHand(3, 3, t));
    }
    int[][] wrong = {{0, 2, 1}, {4, 2, 1}, {1, 1, 1}, {1, 5, 1}, {1, 2, -1}, {1, 2, 9}};
    for (int[] w : wrong) {
      Due.is("22 wrong", x.codes(w[0], w[1], w[2]), NONE);
    }
    for (int odd : ODD) {
      Due.is("22 odd n", x.codes(odd, 2, 1), NONE);
      Due.is("22 odd k", x.codes(1, odd, 1), NONE);
      Due.is("22 odd t", x.codes(1, 2, odd), NONE);
    }
    Due.is("22 not refused", x.count(7), 0);
  }

  /** Every CODE told to an object of its own and asked. */
  private static int countByHand(int n, int k, int t) {
    int states = 1 << n;
    int all = 1;
    for (int i = 0; i < states; i++) {
      all *= k;
    }
    int many = 0;
    for (int number = 0; number < all; number++) {
      Counted x = new Counted();
      x.lamps(n);
      x.news(k);
      int rest = number;
      for (int state = states - 1; state >= 0; state--) {
        x.read(state, rest % k);
        rest /= k;
      }
      many += x.lasts(0) >= t ? 1 : 0;
    }
    return many;
  }

  private static void promise23() {
    Counted x = new Counted();
    Due.is("23 make", x.make(3, 4, 1), 0);
    Due.is("23 status", x.status(), 0);
    // The first by which 1, 2 and 3 can be SENT once from a DARK that is READ as 0.
    int[] due = {0, 0, 0, 0, 0, 1, 2, 3};
    for (int state = 0; state < 8; state++) {
      Due.is("23 of " + state, x.of(state), due[state]);
    }
    Due.is("23 any", x.make(3, 4, 0), 0);
    Due.is("23 read", x.count(3), 8);
    Due.is("23 lowest", x.of(7), 0);
    x.make(3, 4, 1);
    Due.is("23 none", x.make(3, 4, 3), -3);
    Due.is("23 status", x.status(), -3);
    Due.is("23 far too many", x.make(3, 4, 8), -3);
    Due.is("23 other lamps", x.make(2, 4, 1), -3);
    Due.is("23 other news", x.make(3, 3, 1), -3);
    int[][] wrong = {{0, 2, 1}, {4, 2, 1}, {1, 1, 1}, {1, 5, 1}, {1, 2, -1}, {1, 2, 9}};
    for (int[] w : wrong) {
      refusedByNumber(x, "23 wrong", x.make(w[0], w[1], w[2]));
    }
    Due.is("23 stays", x.of(7), 3);
    Counted y = new Counted();
    y.lamps(2);
    y.news(2);
    y.broken(0, 1);
    Due.is("23 broken all the same", y.make(2, 2, 2), 0);
    Due.is("23 first", y.of(0), 0);
    Due.is("23 second", y.of(1), 0);
    Due.is("23 third", y.of(2), 1);
    Due.is("23 fourth", y.of(3), 0);
    Due.is("23 broken stays", y.broken(0, 1), 1);
    x.lamps(4);
    Due.is("23 four lamps are others", x.make(3, 4, 1), -3);
  }

  private static void promise24() {
    Counted x = mixed();
    Due.is("24 send", x.send(1, 0), 1);
    Due.is("24 status", x.status(), 0);
    Due.is("24 none more", x.send(1, 0), 0);
    Due.is("24 logged, too", x.count(4), 2);
    Due.is("24 two more", x.send(0, 0), 2);
    Due.is("24 can't", x.send(1, 0), -3);
    Due.is("24 status", x.status(), -3);
    refusedByNumber(x, "24 news", x.send(4, 0));
    refusedByNumber(x, "24 news below", x.send(-1, 0));
    refusedByNumber(x, "24 manner", x.send(0, 4));
    refusedByNumber(x, "24 manner below", x.send(0, -1));
    for (int odd : ODD) {
      refusedByNumber(x, "24 odd news", x.send(odd, 0));
      refusedByNumber(x, "24 odd manner", x.send(0, odd));
    }
    for (int i = 3; i < 24; i++) {
      Due.is("24 again", x.send(0, i % 4), 0);
    }
    Due.is("24 full", x.count(4), 24);
    Due.is("24 no room", x.send(0, 0), -5);
    Due.is("24 status", x.status(), -5);
    Due.is("24 can't is ahead of no room", x.send(1, 0), -3);
    Due.is("24 stays", x.count(4), 24);
    Counted y = mixed();
    y.oil(0, 5);
    Due.is("24 by oil", y.send(1, 1), 2);
    Due.is("24 to six", y.log(NONE), 6);
  }

  private static void promise25() {
    Counted x = mixed();
    Due.is("25 dark", x.dawn(), 0);
    x.send(1, 0);
    x.send(0, 0);
    x.send(4, 0);
    Due.is("25 three", x.dawn(), 3);
    Due.is("25 status is not its own", x.status(), -1);
    Due.is("25 again", x.dawn(), 0);
    Due.is("25 log", x.count(4), 0);
    Due.is("25 state", x.log(NONE), 0);
    Due.is("25 code stays", x.of(1), 1);
  }

  private static void promise26() {
    Counted x = mixed();
    Due.is("26 empty", x.log(0), NONE);
    Due.is("26 dark", x.log(NONE), 0);
    x.send(1, 0);
    x.send(1, 0);
    x.send(2, 0);
    Due.is("26 first", x.log(0), 1);
    Due.is("26 second", x.log(1), 1);
    Due.is("26 third", x.log(2), 5);
    Due.is("26 now", x.log(NONE), 5);
    Due.is("26 beyond", x.log(3), NONE);
    for (int odd : ODD) {
      Due.is("26 odd", x.log(odd), NONE);
    }
  }

  private static void promise27() {
    Counted x = mixed();
    Due.is("27 dark", x.burnt(), 0);
    x.send(1, 0);
    Due.is("27 one", x.burnt(), 1);
    x.oil(0, 40);
    x.oil(2, 7);
    x.send(2, 0);
    Due.is("27 two", x.burnt(), 47);
    x.oil(1, 99);
    Due.is("27 not lit", x.burnt(), 47);
    x.oil(2, 0);
    Due.is("27 as it is now", x.burnt(), 40);
    x.broken(0, 1);
    Due.is("27 broken all the same", x.burnt(), 40);
  }

  private static void promise28() {
    Counted x = mixed();
    Due.is("28 empty", x.trail(), -6);
    Due.is("28 status", x.status(), -6);
    Due.tape(x, 1, 7);
    Due.is("28 two", x.trail(), 2);
    Due.is("28 status", x.status(), 0);
    Due.is("28 tape", x.count(6), 0);
    Due.is("28 count", x.count(12), 2);
    x.trail();
    Due.is("28 refused changes nothing", x.count(12), 2);
    Due.tape(x, new int[30]);
    Due.is("28 the most", x.trail(), 30);
    int[] more = new int[40];
    more[29] = 1;
    more[30] = 3;
    Due.tape(x, more);
    Due.is("28 no more", x.trail(), 30);
    Due.is("28 the others don't count", x.judge(0), NONE);
    Due.is("28 count", x.count(12), 30);
    x.lamps(2);
    Due.is("28 lamps leave it", x.count(12), 30);
  }

  private static void judged(Counted x, int due, int manner, int... states) {
    Due.trail(x, states);
    Due.is("29 judged by " + manner, x.judge(manner), due);
  }

  private static void promise29() {
    Counted x = mixed();
    Due.is("29 no trail", x.judge(0), NONE);
    judged(x, NONE, 0, 1, 7);
    judged(x, NONE, 0, 0, 0, 1, 1, 5, 7, 7);
    judged(x, 0, 0, 3);
    judged(x, 1, 0, 1, 2);
    judged(x, 1, 0, 1, 0);
    judged(x, 1, 0, 1, 8);
    judged(x, 0, 0, 255);
    judged(x, 0, 0, 6, 7);
    x.oil(0, 5);
    judged(x, NONE, 1, 6, 7);
    judged(x, 0, 1, 1, 7);
    judged(x, 2, 2, 1, 3, 1);
    judged(x, NONE, 3, 4, 7);
    x.read(7, NONE);
    Due.is("29 not read now", x.judge(3), 1);
    x.read(7, 0);
    x.broken(2, 1);
    Due.is("29 broken now", x.judge(3), 0);
    Due.is("29 manner", x.judge(4), NONE);
    Due.is("29 manner below", x.judge(-1), NONE);
    for (int odd : ODD) {
      Due.is("29 odd", x.judge(odd), NONE);
    }
  }

  private static void promise30() {
    Counted x = mixed();
    Due.is("30 none", x.rows(0, 0, 0), 1);
    Due.is("30 none elsewhere", x.rows(0, 1, 0), 0);
    Due.is("30 one", x.rows(1, 4, 0), 1);
    Due.is("30 never by this", x.rows(1, 6, 0), 0);
    Due.is("30 not what is read", x.rows(1, 0, 0), 0);
    Due.is("30 two", x.rows(2, 7, 0), 3);
    Due.is("30 three", x.rows(3, 7, 0), 6);
    Due.is("30 eight", x.rows(8, 7, 0), 0);
    x.oil(0, 5);
    Due.is("30 by oil", x.rows(1, 6, 1), 1);
    Due.is("30 by oil then", x.rows(2, 7, 1), 3);
    Counted y = coast(8, 2, "reads lit%2");
    Due.is("30 the longest", y.rows(8, 255, 2), 1);
    Counted z = coast(8, 8, "reads first+1 if first<7");
    Due.is("30 of an unread dark", z.rows(0, 0, 3), 1);
    Due.is("30 any then", coast(1, 2, "reads 0 if lit=1").rows(1, 1, 0), 1);
    int[][] wrong = {{-1, 0, 0}, {9, 0, 0}, {1, 8, 0}, {1, -1, 0}, {1, 0, 4}, {1, 0, -1}};
    for (int[] w : wrong) {
      Due.is("30 wrong", x.rows(w[0], w[1], w[2]), NONE);
    }
    for (int odd : ODD) {
      Due.is("30 odd t", x.rows(odd, 0, 0), NONE);
      Due.is("30 odd state", x.rows(1, odd, 0), NONE);
      Due.is("30 odd manner", x.rows(1, 0, odd), NONE);
    }
  }

  private static void promise31() {
    Counted x = mixed();
    Due.is("31 first", x.could(2, 7, 0, 0, 1), 1);
    Due.is("31 not first", x.could(2, 7, 0, 0, 0), 0);
    Due.is("31 last", x.could(2, 7, 0, 1, 0), 3);
    Due.is("31 of three", x.could(3, 7, 0, 1, 2), 2);
    Due.is("31 of none", x.could(1, 6, 0, 0, 1), 0);
    int[][] wrong = {{0, 0, 0, 0, 0}, {2, 7, 0, 2, 0}, {2, 7, 0, -1, 0}, {2, 7, 0, 0, 4},
        {2, 7, 0, 0, -1}, {9, 7, 0, 0, 0}, {-1, 7, 0, 0, 0}, {2, 8, 0, 0, 0}, {2, -1, 0, 0, 0},
        {2, 7, 4, 0, 0}, {2, 7, -1, 0, 0}};
    for (int[] w : wrong) {
      Due.is("31 wrong", x.could(w[0], w[1], w[2], w[3], w[4]), NONE);
    }
    for (int odd : ODD) {
      Due.is("31 odd j", x.could(2, 7, 0, odd, 0), NONE);
      Due.is("31 odd news", x.could(2, 7, 0, 0, odd), NONE);
    }
    Counted y = coast(8, 4, "reads sum%4");
    for (int t = 1; t <= 8; t++) {
      for (int j = 0; j < t; j++) {
        long all = 0;
        for (int news = 0; news < 4; news++) {
          all += y.could(t, 255, 2, j, news);
        }
        Due.is("31 some news it is", all, y.rows(t, 255, 2));
      }
    }
  }

  private static void promise32() {
    Counted x = mixed();
    Due.is("32 seen", x.maybe(1, 0), 2);
    Due.is("32 one more", x.maybe(1, 1), 14);
    Due.is("32 all", x.maybe(1, 2), 15);
    Due.is("32 more than there are", x.maybe(1, 8), 15);
    Due.is("32 full", x.maybe(7, 8), 1);
    x.read(3, NONE);
    Due.is("32 not read", x.maybe(1, 1), 6);
    x.broken(2, 1);
    Due.is("32 not reached", x.maybe(1, 1), 2);
    Due.is("32 what can't be seen", x.maybe(4, 8), 0);
    x.read(0, NONE);
    Due.is("32 an unread dark", x.maybe(0, 0), 0);
    Due.is("32 state", x.maybe(8, 0), NONE);
    Due.is("32 state below", x.maybe(-1, 0), NONE);
    Due.is("32 missed", x.maybe(0, 9), NONE);
    Due.is("32 missed below", x.maybe(0, -1), NONE);
    for (int odd : ODD) {
      Due.is("32 odd state", x.maybe(odd, 0), NONE);
      Due.is("32 odd missed", x.maybe(0, odd), NONE);
    }
  }

  private static void promise33() {
    Due.is("33 no code", new Counted().safe(), 8);
    Counted x = mixed();
    Due.is("33 none", x.safe(), 0);
    x.lamps(8);
    Due.code(x, 0);
    Due.is("33 the dark alone", x.safe(), 8);
    x.read(255, 0);
    Due.is("33 alike", x.safe(), 8);
    x.read(255, 1);
    Due.is("33 the farthest", x.safe(), 7);
    x.read(15, 2);
    Due.is("33 half", x.safe(), 3);
    x.read(0, NONE);
    Due.is("33 an unread dark is taken for none", x.safe(), 3);
    x.read(15, NONE);
    Due.is("33 one alone", x.safe(), 8);
    x.read(15, 2);
    x.broken(7, 1);
    Due.is("33 not reached", x.safe(), 8);
    x.read(0x70, 1);
    Due.is("33 beside one another", x.safe(), 3);
    x.read(0x07, 1);
    Due.is("33 within", x.safe(), 0);
  }

  private static void promise34() {
    Counted x = mixed();
    Due.is("34 none", x.spy(0), 1);
    Due.is("34 one", x.spy(1), 14);
    Due.is("34 two", x.spy(2), 14);
    Due.is("34 three", x.spy(3), 1);
    x.broken(1, 1);
    Due.is("34 reached alone", x.spy(1), 10);
    Due.is("34 none reached", x.spy(3), 0);
    x.read(0, NONE);
    Due.is("34 an unread dark", x.spy(0), 0);
    Due.is("34 more than there are", x.spy(4), NONE);
    Due.is("34 more than can be", x.spy(9), NONE);
    Due.is("34 below", x.spy(-1), NONE);
    for (int odd : ODD) {
      Due.is("34 odd", x.spy(odd), NONE);
    }
    Counted y = coast(8, 8, "reads 7");
    Due.is("34 eight", y.spy(8), 128);
  }

  private static void promise35() {
    Counted x = mixed();
    for (int i = 1; i <= 16; i++) {
      Due.is("35 want", x.want(i % 4), i);
      Due.is("35 status", x.status(), 0);
    }
    Due.is("35 no room", x.want(0), -5);
    Due.is("35 status", x.status(), -5);
    refusedByNumber(x, "35 a number is ahead", x.want(4));
    refusedByNumber(x, "35 below", x.want(-1));
    for (int odd : ODD) {
      refusedByNumber(x, "35 odd", x.want(odd));
    }
    Due.is("35 count", x.count(5), 16);
  }

  private static void promise36() {
    Counted x = mixed();
    Due.is("36 nothing", x.unwant(), 0);
    x.want(1);
    x.want(9);
    Due.is("36 one", x.unwant(), 1);
    Due.is("36 status is not its own", x.status(), -1);
    Due.is("36 count", x.count(5), 0);
    Due.is("36 nothing to pay", x.cheap(0), 0);
    Due.is("36 from the start", x.want(2), 1);
  }

  private static void promise37() {
    Counted x = mixed();
    Due.is("37 nothing", x.cheap(0), 0);
    Due.is("37 one way", x.cheap(1), 1);
    x.want(1);
    x.want(0);
    Due.is("37 oil", x.cheap(0), 3);
    Due.is("37 ways", x.cheap(1), 2);
    x.oil(1, 0);
    x.oil(2, 0);
    Due.is("37 less oil", x.cheap(0), 1);
    Due.is("37 ways to the same", x.cheap(1), 2);
    x.want(0);
    Due.is("37 once more", x.cheap(1), 2);
    x.want(1);
    Due.is("37 can't", x.cheap(0), NONE);
    Due.is("37 no way", x.cheap(1), 0);
    x.unwant();
    x.want(1);
    x.broken(1, 1);
    Due.is("37 around a broken one", x.cheap(0), 1);
    x.broken(1, 0);
    Due.is("37 without oil", x.cheap(0), 0);
    Due.is("37 what", x.cheap(2), NONE);
    Due.is("37 what below", x.cheap(-1), NONE);
    for (int odd : ODD) {
      Due.is("37 odd", x.cheap(odd), NONE);
    }
    Counted y = coast(8, 2, "reads 1");
    for (int lamp = 0; lamp < 8; lamp++) {
      y.oil(lamp, 0);
    }
    for (int i = 1; i <= 16; i++) {
      y.want(1);
      // Each LAMP is lit with one of them or never.
      long ways = 1;
      for (int lamp = 0; lamp < 8; lamp++) {
        ways *= i + 1;
      }
      Due.is("37 ways of " + i, y.cheap(1), Math.min(ways, 1_000_000_000L));
    }
    Due.is("37 all for nothing", y.cheap(0), 0);
    y.oil(0, 99);
    Due.is("37 one that is left dark", y.cheap(1), 410_338_673);
  }

  private static void promise38() {
    Counted x = mixed();
    Due.is("38 nothing", x.plan(0), NONE);
    x.want(1);
    x.want(0);
    Due.is("38 first", x.plan(0), 1);
    Due.is("38 second", x.plan(1), 7);
    Due.is("38 beyond", x.plan(2), NONE);
    Due.is("38 below", x.plan(-1), NONE);
    for (int odd : ODD) {
      Due.is("38 odd", x.plan(odd), NONE);
    }
    x.unwant();
    x.want(2);
    x.oil(1, 9);
    Due.is("38 by oil", x.plan(0), 5);
    x.want(1);
    Due.is("38 can't stay so", x.plan(0), 2);
    Due.is("38 then", x.plan(1), 6);
    x.want(2);
    Due.is("38 can't", x.plan(0), NONE);
    Due.is("38 can't at all", x.plan(2), NONE);
    // The first NEWS is cheapest by LAMP 0, but what comes behind is not.
    Counted y = new Counted();
    y.news(2);
    Due.code(y, 9, 0, 0, 9, 9, 1, 1, 9);
    y.oil(0, 8);
    y.oil(1, 9);
    y.oil(2, 1);
    y.want(0);
    y.want(1);
    Due.is("38 together", y.plan(0), 1);
    y.oil(1, 8);
    Due.is("38 the first of alike ones", y.plan(0), 1);
    y.oil(1, 7);
    Due.is("38 the cheaper", y.plan(0), 2);
    y.broken(1, 1);
    Due.is("38 around a broken one", y.plan(1), 5);
  }

  private static void promise39() {
    Counted x = mixed();
    Due.is("39 night", x.night(0, 10, 0), 5);
    Due.is("39 status", x.status(), 0);
    Due.is("39 as many", x.night(0, 3, 0), 3);
    Due.is("39 none", x.night(0, 0, 0), 0);
    Due.is("39 the night outside stays", x.log(NONE), 0);
    Due.is("39 nothing logged", x.count(4), 0);
    x.send(1, 0);
    Due.is("39 from the dark", x.night(1_000_000, 1, 0), 1);
    refusedByNumber(x, "39 seed", x.night(1_000_001, 1, 0));
    refusedByNumber(x, "39 seed below", x.night(-1, 1, 0));
    refusedByNumber(x, "39 many", x.night(0, 25, 0));
    refusedByNumber(x, "39 many below", x.night(0, -1, 0));
    refusedByNumber(x, "39 manner", x.night(0, 1, 4));
    refusedByNumber(x, "39 manner below", x.night(0, 1, -1));
    for (int odd : ODD) {
      refusedByNumber(x, "39 odd seed", x.night(odd, 1, 0));
      refusedByNumber(x, "39 odd many", x.night(0, odd, 0));
      refusedByNumber(x, "39 odd manner", x.night(0, 1, odd));
    }
    Counted y = new Counted();
    y.news(2);
    Due.code(y, 0, 1);
    y.lamps(8);
    Due.is("39 no code", y.night(5, 24, 3), 0);
    Due.law(y, "reads lit%2");
    y.learn(0);
    int s = 777;
    int lit = 0;
    int sent = 0;
    for (int i = 0; i < 24; i++) {
      s = (int) ((s * 1103L + 12345) % 1_000_003);
      lit += lit % 2 == s % 2 ? 0 : 1;
      if (lit > 8) {
        break;
      }
      sent++;
    }
    Due.is("39 by draws", y.night(777, 24, 2), sent);
  }

  private static void promise40() {
    Counted x = mixed();
    Due.is("40 no night", x.drawn(0), NONE);
    Due.is("40 nothing unsent", x.drawn(NONE), NONE);
    x.night(0, 10, 0);
    int[] due = {1, 1, 1, 1, 7};
    s40(x, due);
    Due.is("40 unsent", x.drawn(NONE), 2);
    x.night(-1, 10, 0);
    s40(x, due);
    x.image(0);
    x.night(0, 2, 0);
    Due.is("40 all sent", x.drawn(NONE), NONE);
    Due.is("40 second", x.drawn(1), 1);
    Due.is("40 no third", x.drawn(2), NONE);
    x.back(0);
    Due.is("40 no image keeps it", x.drawn(2), NONE);
    x.lamps(1);
    Due.is("40 lamps leave it", x.drawn(1), 1);
    x.night(0, 0, 0);
    Due.is("40 none", x.drawn(0), NONE);
    for (int odd : ODD) {
      Due.is("40 odd", x.drawn(odd), NONE);
    }
  }

  private static void s40(Counted x, int[] due) {
    for (int i = 0; i < due.length; i++) {
      Due.is("40 state " + i, x.drawn(i), due[i]);
    }
    Due.is("40 beyond", x.drawn(due.length), NONE);
  }

  private static void promise41() {
    Counted x = mixed();
    Due.is("41 image", x.image(0), 0);
    Due.is("41 status", x.status(), 0);
    Due.is("41 other", x.image(1), 0);
    x.read(0, 3);
    Due.is("41 anew", x.image(0), 0);
    x.read(0, 2);
    x.back(0);
    Due.is("41 the latest", x.of(0), 3);
    x.back(1);
    Due.is("41 the other", x.of(0), 0);
    refusedByNumber(x, "41 no such", x.image(2));
    refusedByNumber(x, "41 below", x.image(-1));
    for (int odd : ODD) {
      refusedByNumber(x, "41 odd", x.image(odd));
    }
  }

  private static void promise42() {
    Counted x = mixed();
    Due.is("42 not kept", x.back(0), -2);
    Due.is("42 status", x.status(), -2);
    refusedByNumber(x, "42 no such", x.back(2));
    refusedByNumber(x, "42 below", x.back(-1));
    for (int odd : ODD) {
      refusedByNumber(x, "42 odd", x.back(odd));
    }
    x.oil(1, 5);
    x.broken(2, 1);
    x.send(1, 0);
    x.want(2);
    Due.law(x, "reads lit");
    x.image(1);
    x.lamps(5);
    x.news(7);
    x.oil(1, 8);
    Due.law(x, "reads 1");
    Due.tape(x, 1, 2, 3);
    x.trail();
    Due.tape(x, 4, 5);
    Due.is("42 back", x.back(1), 0);
    Due.is("42 status", x.status(), 0);
    int[] due = {3, 4, 2, 8, 1, 1, 2, 4 + ODD.length - 2, 1, 0, 0, 0, 3};
    for (int what = 0; what <= 12; what++) {
      Due.is("42 count " + what, x.count(what), due[what]);
    }
    Due.is("42 state", x.log(NONE), 1);
    Due.is("42 log", x.log(0), 1);
    Due.is("42 broken", x.broken(2, 1), 1);
    Due.is("42 oil", x.oil(1, 1), 5);
    Due.is("42 of", x.of(6), 1);
    Due.is("42 wanted", x.plan(0), 2);
    x.end(0);
    Due.is("42 laws of then", Due.law(x, "reads 3"), 2);
    x.learn(2);
    Due.is("42 a law of now", x.of(0), 3);
    x.back(1);
    Due.is("42 again", x.oil(1, 9), 5);
    Due.is("42 no such law", x.learn(2), -2);
    x.back(1);
    Due.is("42 images stay", x.oil(1, 9), 5);
    lawsOfTwoImages();
  }

  private static void lawsOfTwoImages() {
    Counted x = new Counted();
    x.image(0);
    Due.law(x, "reads 1");
    x.image(1);
    x.back(0);
    Due.law(x, "reads 2");
    x.learn(0);
    Due.is("42 one law", x.of(0), 2);
    x.back(1);
    x.learn(0);
    Due.is("42 the other", x.of(0), 1);
    x.back(0);
    Due.is("42 none", x.learn(0), -2);
  }

  private static void promise43() {
    Counted x = mixed();
    x.send(1, 0);
    x.want(1);
    x.want(2);
    Due.tape(x, 1, 2, 3);
    x.trail();
    Due.tape(x, 1, 2, 3, 4);
    x.read(5, NONE);
    x.oil(9, 1);
    x.learn(5);
    x.learn(6);
    x.make(2, 2, 1);
    for (int i = 0; i < 16; i++) {
      x.want(0);
    }
    x.end(0);
    x.row();
    x.trail();
    x.law();
    Due.tape(x, 1, 2);
    int[] due = {3, 4, 1, 7, 1, 16, 2, 1, 2, 1, 2, 3, 3};
    for (int what = 0; what <= 12; what++) {
      Due.is("43 count " + what, x.count(what), due[what]);
    }
    Due.is("43 beyond", x.count(13), NONE);
    Due.is("43 below", x.count(-1), NONE);
    for (int odd : ODD) {
      Due.is("43 odd", x.count(odd), NONE);
    }
    x.of(9);
    x.next(9, 9, 9);
    x.codes(9, 9, 9);
    x.judge(9);
    x.drawn(99);
    x.feed(0, 0, 0, 0, 0);
    x.end(-1);
    Due.is("43 what is not refused is not counted", x.count(7), 1);
    x.image(0);
    x.oil(9, 1);
    x.back(0);
    Due.is("43 images do not keep that", x.count(7), 2);
  }

  private static void promise44() {
    Counted x = mixed();
    Due.is("44 not", x.status(), 0);
    statusOf(x, x.lamps(0), -1);
    x.lamps(3);
    statusOf(x, 0, 0);
    statusOf(x, x.news(0), -1);
    x.news(4);
    statusOf(x, 0, 0);
    statusOf(x, x.image(2), -1);
    x.image(0);
    statusOf(x, 0, 0);
    statusOf(x, x.oil(5, 0), -1);
    x.oil(0, 0);
    statusOf(x, 0, 0);
    statusOf(x, x.broken(5, 0), -1);
    x.broken(0, 0);
    statusOf(x, 0, 0);
    statusOf(x, x.read(9, 0), -1);
    x.read(0, NONE);
    statusOf(x, 0, 0);
    Due.code(x, 0);
    statusOf(x, 0, 0);
    statusOf(x, x.row(), -6);
    Due.law(x, "reads 1");
    statusOf(x, 0, 0);
    statusOf(x, x.law(), -6);
    x.learn(0);
    statusOf(x, 0, 0);
    statusOf(x, x.learn(9), -2);
    x.make(3, 4, 1);
    statusOf(x, 0, 0);
    statusOf(x, x.make(3, 4, 8), -3);
    x.send(0, 0);
    statusOf(x, 0, 0);
    statusOf(x, x.send(9, 0), -1);
    Due.tape(x, 1);
    x.trail();
    statusOf(x, 0, 0);
    statusOf(x, x.trail(), -6);
    x.want(0);
    statusOf(x, 0, 0);
    statusOf(x, x.want(9), -1);
    x.night(0, 0, 0);
    statusOf(x, 0, 0);
    statusOf(x, x.night(0, 0, 9), -1);
    x.back(0);
    statusOf(x, 0, 0);
    statusOf(x, x.back(1), -2);
    leavesStatus(x, -2);
  }

  private static void statusOf(Counted x, int got, int due) {
    Due.is("44 answer", got, due);
    Due.is("44 status", x.status(), due);
  }

  /** Calls that are not of those whose refusal status() tells. */
  private static void leavesStatus(Counted x, int due) {
    x.of(0);
    x.feed(0, 0, 0, 0, 0);
    x.end(0);
    x.torn();
    x.fault();
    x.next(0, 0, 0);
    x.ways(0, 0);
    x.lasts(0);
    x.mean(0, 0);
    x.reached(0);
    x.failing(0);
    x.hurts(0);
    x.codes(1, 2, 1);
    x.dawn();
    x.log(0);
    x.burnt();
    x.judge(0);
    x.rows(1, 0, 0);
    x.could(1, 0, 0, 0, 0);
    x.maybe(0, 0);
    x.safe();
    x.spy(0);
    x.unwant();
    x.cheap(0);
    x.plan(0);
    x.drawn(0);
    x.count(0);
    Due.is("44 stays", x.status(), due);
  }
}
