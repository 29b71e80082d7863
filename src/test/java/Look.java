import java.util.ArrayList;
import java.util.List;

/**
 * All that can be seen of an object by calls, as far as 512 of them go: the answers in a list, each
 * with its call. Two objects with which the same was done must look the same.
 */
final class Look {
  private static final int NONE = Counted.NONE;

  private final Counted x;
  private final List<String> seen = new ArrayList<>();

  private Look(Counted x) {
    this.x = x;
  }

  /** The object can't be used any more then. */
  static List<String> at(Counted x) {
    Look look = new Look(x);
    look.numbers();
    look.night();
    look.code();
    look.sending();
    look.errand();
    look.underTheCode();
    look.image(0);
    look.image(1);
    return look.seen;
  }

  private void see(String call, long answer) {
    seen.add(call + " -> " + answer);
  }

  private int[] states() {
    int full = (1 << x.count(0)) - 1;
    return full <= 7 ? upTo(full) : new int[] {0, 1, 2, 5, full / 2, full - 1, full};
  }

  private static int[] upTo(int last) {
    int[] all = new int[last + 1];
    for (int i = 0; i <= last; i++) {
      all[i] = i;
    }
    return all;
  }

  private void numbers() {
    for (int what : new int[] {0, 1, 2, 3, 4, 5, 6, 12}) {
      see("count " + what, x.count(what));
    }
    see("torn", x.torn());
    see("fault", x.fault());
    see("burnt", x.burnt());
    see("drawn NONE", x.drawn(NONE));
    for (int i = 0; i < 7; i++) {
      see("drawn " + i, x.drawn(i));
    }
    for (int manner = 0; manner < 4; manner++) {
      see("judge " + manner, x.judge(manner));
    }
  }

  private void night() {
    see("log NONE", x.log(NONE));
    int many = x.count(4);
    for (int i = 0; i <= many; i++) {
      see("log " + i, x.log(i));
    }
  }

  private void code() {
    for (int state : states()) {
      see("of " + state, x.of(state));
    }
  }

  private void sending() {
    int news = x.count(1);
    for (int state : states()) {
      see("lasts " + state, x.lasts(state));
      see("mean " + state, x.mean(state, 0));
      for (int told : new int[] {0, 1, news - 1}) {
        for (int manner = 0; manner < 4; manner++) {
          see("next " + state + " " + told + " " + manner, x.next(state, told, manner));
        }
      }
    }
    see("reached", x.reached(NONE));
    see("safe", x.safe());
    see("rows", x.rows(2, states()[states().length - 1], 0));
    see("failing", x.failing(NONE));
  }

  private void errand() {
    see("cheap 0", x.cheap(0));
    see("cheap 1", x.cheap(1));
    int many = x.count(5);
    for (int i = 0; i <= many; i++) {
      see("plan " + i, x.plan(i));
    }
  }

  /** What can be seen only by changing it: OIL, BROKEN ones, LAWS, the TAPE. */
  private void underTheCode() {
    int lamps = x.count(0);
    for (int lamp = 0; lamp < lamps; lamp++) {
      see("oil " + lamp, x.oil(lamp, 1));
      see("broken " + lamp, x.broken(lamp, 0));
    }
    see("row of the tape", x.row());
    see("torn then", x.torn());
    code();
    int laws = x.count(2);
    for (int law = 0; law <= laws; law++) {
      see("learn " + law, x.learn(law));
      see("of the last but one", x.of((1 << lamps) - 2));
    }
  }

  private void image(int k) {
    see("back " + k, x.back(k));
    for (int what = 0; what < 6; what++) {
      see("count then " + what, x.count(what));
    }
    see("log then", x.log(NONE));
    see("log then 0", x.log(0));
    see("plan then 0", x.plan(0));
    code();
    int lamps = x.count(0);
    for (int lamp = 0; lamp < lamps; lamp++) {
      see("oil then " + lamp, x.oil(lamp, 1));
      see("broken then " + lamp, x.broken(lamp, 0));
    }
    see("learn then", x.learn(0));
    see("of then", x.of(1));
  }
}
