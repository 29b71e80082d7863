import com.sun.management.ThreadMXBean;
import java.lang.management.ManagementFactory;
import java.lang.reflect.InvocationTargetException;
import java.lang.reflect.Method;
import java.lang.reflect.Modifier;
import java.util.Random;

/** What runs of 512 calls make stays small, and no argument makes the machine throw. */
public final class RoomTest {
  /** A tenth of the room, if each field or element had four bytes. */
  private static final long MOST_BYTES = 2_900_000;
  private static final ThreadMXBean BEAN = (ThreadMXBean) ManagementFactory.getThreadMXBean();

  public static void main(String[] args) throws IllegalAccessException {
    madeBy("questions", RoomTest::questions);
    madeBy("laws", RoomTest::laws);
    madeBy("images", RoomTest::images);
    for (int run = 0; run < 2000; run++) {
      anything(new Random(run));
    }
    Due.close();
  }

  private static void madeBy(String what, Runnable run) {
    run.run();
    long before = BEAN.getThreadAllocatedBytes(Thread.currentThread().getId());
    run.run();
    long made = BEAN.getThreadAllocatedBytes(Thread.currentThread().getId()) - before;
    System.out.println(what + " make " + made + " bytes");
    Due.so(what + " make " + made + " bytes", made < MOST_BYTES);
  }

  private static void questions() {
    Counted x = new Counted();
    x.lamps(8);
    x.news(8);
    x.feed(0x72656164, 0x73206d69, 0x78000000, 0, 0);
    x.end(9);
    x.law();
    x.learn(0);
    for (int i = 0; i < 100; i++) {
      x.read(i, i % 8);
      x.mean(0, 0);
      x.rows(8, 255, i % 4);
      x.failing(0);
      x.codes(1 + i % 3, 2 + i % 3, 1);
    }
  }

  /** As many of the longest LAWS as 512 calls can tell. */
  private static void laws() {
    Counted x = new Counted();
    x.image(0);
    String law = "reads " + "lit+".repeat(49) + "1";
    for (int i = 0; i < 20; i++) {
      Due.is("a long law", Due.law(x, law), 0);
      Due.is("is learnt, by which the DARK alone is READ", x.learn(0), 1);
      x.back(0);
    }
  }

  private static void images() {
    Counted x = new Counted();
    for (int i = 0; i < 256; i++) {
      x.image(i % 2);
      x.back(i % 2);
    }
  }

  /** Any methods with any numbers, many of them near what can be; no call may throw, the 513th neither. */
  private static void anything(Random r) throws IllegalAccessException {
    LitCoast x = new LitCoast();
    Method[] all = LitCoast.class.getDeclaredMethods();
    for (int call = 0; call < 600; call++) {
      Method m = all[r.nextInt(all.length)];
      if (!Modifier.isPublic(m.getModifiers())) {
        continue;
      }
      Object[] numbers = new Object[m.getParameterCount()];
      for (int i = 0; i < numbers.length; i++) {
        numbers[i] = m.getName().equals("feed") ? fed(r) : number(r);
      }
      try {
        m.invoke(x, numbers);
      } catch (InvocationTargetException e) {
        Due.so(m.getName() + " threw " + e.getCause(), false);
      }
    }
    Due.so("no call threw", true);
  }

  private static int fed(Random r) {
    String bits = "reads lit+1; if(=)[]*%/state";
    int four = 0;
    for (int i = 0; i < 4; i++) {
      four = four << 8 | (r.nextInt(3) == 0 ? r.nextInt(9) : bits.charAt(r.nextInt(bits.length())));
    }
    return four;
  }

  private static int number(Random r) {
    switch (r.nextInt(8)) {
      case 0: return r.nextInt();
      case 1: return r.nextBoolean() ? Integer.MIN_VALUE : Integer.MAX_VALUE;
      case 2: return r.nextInt(300) - 20;
      default: return r.nextInt(11) - 1;
    }
  }
}
