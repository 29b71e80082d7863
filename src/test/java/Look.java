import java.util.LinkedHashMap;
import java.util.Map;
import java.util.Set;
import java.util.TreeSet;

/**
 * All that can be seen of an object by calls, as far as 512 of them go: each question with its
 * answer. Two objects with which the same was done must look the same.
 */
final class Look {
  private static final int NONE = Counted.NONE;

  private final Counted x;
  private final Map<String, Long> seen = new LinkedHashMap<>();
  private String section = "";

  private Look(Counted x) {
    this.x = x;
  }

  /** The object can't be used any more then. */
  static Map<String, Long> at(Counted x) {
    Look look = new Look(x);
    look.numbers();
    look.night();
    look.code();
    look.sending();
    look.errand();
    look.lampsOneByOne();
    look.tape();
    look.laws();
    look.image(0);
    look.image(1);
    return look.seen;
  }

  /** The questions that two objects do not answer alike. */
  static Set<String> unlike(Counted one, Counted other) {
    Map<String, Long> first = at(one);
    Map<String, Long> second = at(other);
    Set<String> unlike = new TreeSet<>();
    Set<String> all = new TreeSet<>(first.keySet());
    all.addAll(second.keySet());
    for (String question : all) {
      Long answer = first.get(question);
      if (answer == null || !answer.equals(second.get(question))) {
        unlike.add(question);
      }
    }
    return unlike;
  }

  private void see(String question, long answer) {
    if (seen.put(section + question, answer) != null) {
      throw new IllegalStateException(section + question + " is asked twice");
    }
  }

  private int[] states() {
    int full = (1 << x.count(0)) - 1;
    return full <= 7 ? upTo(full) : new int[] {0, 1, 2, 5, full / 2, full - 1, full};
  }

  private static int[] upTo(int last) {
    int[] all = new int[last + 1];
    for (int i = 0; i <= last; i++) {
      all[i] = i;
    }
    return all;
  }

  private void numbers() {
    for (int what : new int[] {0, 1, 2, 3, 4, 5, 6, 12}) {
      see("count " + what, x.count(what));
    }
    see("torn", x.torn());
    see("fault", x.fault());
    see("burnt", x.burnt());
    see("drawn NONE", x.drawn(NONE));
    for (int i = 0; i < 7; i++) {
      see("drawn " + i, x.drawn(i));
    }
    for (int manner = 0; manner < 4; manner++) {
      see("judge " + manner, x.judge(manner));
    }
  }

  private void night() {
    see("log NONE", x.log(NONE));
    int many = x.count(4);
    for (int i = 0; i <= many; i++) {
      see("log " + i, x.log(i));
    }
  }

  private void code() {
    for (int state : states()) {
      see("of " + state, x.of(state));
    }
  }

  private void sending() {
    int news = x.count(1);
    int[] tolds = news == 2 ? new int[] {0, 1} : new int[] {0, 1, news - 1};
    for (int state : states()) {
      see("lasts " + state, x.lasts(state));
      see("mean " + state, x.mean(state, 0));
      for (int told : tolds) {
        for (int manner = 0; manner < 4; manner++) {
          see("next " + state + " " + told + " " + manner, x.next(state, told, manner));
        }
      }
    }
    see("reached", x.reached(NONE));
    see("safe", x.safe());
    see("rows", x.rows(2, states()[states().length - 1], 0));
    see("failing", x.failing(NONE));
  }

  private void errand() {
    see("cheap 0", x.cheap(0));
    see("cheap 1", x.cheap(1));
    int many = x.count(5);
    for (int i = 0; i <= many; i++) {
      see("plan " + i, x.plan(i));
    }
  }

  private void lampsOneByOne() {
    int lamps = x.count(0);
    for (int lamp = 0; lamp < lamps; lamp++) {
      see("oil " + lamp, x.oil(lamp, 1));
      see("broken " + lamp, x.broken(lamp, 0));
    }
  }

  private void tape() {
    section = "tape: ";
    see("row", x.row());
    see("torn", x.torn());
    code();
  }

  private void laws() {
    section = "laws: ";
    int laws = x.count(2);
    int state = (1 << x.count(0)) - 2;
    for (int law = 0; law <= laws; law++) {
      see("learn " + law, x.learn(law));
      see("of by " + law, x.of(state));
    }
  }

  private void image(int k) {
    section = "image " + k + ": ";
    boolean kept = x.back(k) == 0;
    see("back", kept ? 1 : 0);
    if (!kept) {
      return;
    }
    for (int what = 0; what < 6; what++) {
      see("count " + what, x.count(what));
    }
    see("log NONE", x.log(NONE));
    see("log 0", x.log(0));
    see("plan 0", x.plan(0));
    code();
    lampsOneByOne();
    see("learn 0", x.learn(0));
    see("of by 0", x.of(1));
  }
}
