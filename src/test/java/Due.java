/** What the tests of the project share: counting answers, and texts for the TAPE. */
final class Due {
  private static int asked = 0;
  private static int wrong = 0;

  private Due() {
  }

  static void is(String what, long got, long want) {
    asked++;
    if (got != want) {
      wrong++;
      System.out.println(what + " answered " + got + ", due is " + want);
    }
  }

  static void so(String what, boolean holds) {
    is(what, holds ? 1 : 0, 1);
  }

  static void close() {
    System.out.println(asked + " answers, " + wrong + " not as due");
    if (wrong != 0 || asked == 0) {
      System.exit(1);
    }
  }

  /** Puts bytes on the TAPE behind what it has; answers whether all went on. */
  static boolean tape(Counted x, int... bytes) {
    int before = x.count(6);
    for (int at = 0; at < bytes.length; at += 20) {
      int[] five = new int[5];
      for (int i = 0; i < 20; i++) {
        int b = at + i < bytes.length ? bytes[at + i] & 255 : 0;
        five[i / 4] |= b << (24 - 8 * (i % 4));
      }
      if (x.feed(five[0], five[1], five[2], five[3], five[4]) < 0) {
        return false;
      }
    }
    return bytes.length == 0 || x.end(before + bytes.length) >= 0;
  }

  static boolean text(Counted x, String text) {
    int[] bytes = new int[text.length()];
    for (int i = 0; i < bytes.length; i++) {
      bytes[i] = text.charAt(i);
    }
    return tape(x, bytes);
  }

  /** A LAW of a text: what law() answers. */
  static int law(Counted x, String text) {
    text(x, text);
    return x.law();
  }

  /** A CODE told as a row: what row() answers. */
  static int code(Counted x, int... news) {
    tape(x, news);
    return x.row();
  }

  /** A TRAIL told as a row: what trail() answers. */
  static int trail(Counted x, int... states) {
    tape(x, states);
    return x.trail();
  }

  static String times(String text, int many) {
    return text.repeat(many);
  }
}
