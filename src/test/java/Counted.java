/**
 * A LitCoast that counts its calls: nothing is promised behind the 512th, so a test that asks more of
 * one object is wrong itself.
 */
final class Counted {
  static final int NONE = LitCoast.NONE;
  private static final int MOST_CALLS = 512;

  private final LitCoast coast = new LitCoast();
  private int calls;

  private LitCoast once() {
    calls++;
    if (calls > MOST_CALLS) {
      throw new IllegalStateException("this test makes more than 512 calls on one object");
    }
    return coast;
  }

  int lamps(int n) {
    return once().lamps(n);
  }

  int news(int k) {
    return once().news(k);
  }

  int oil(int lamp, int oil) {
    return once().oil(lamp, oil);
  }

  int broken(int lamp, int is) {
    return once().broken(lamp, is);
  }

  int read(int state, int news) {
    return once().read(state, news);
  }

  int of(int state) {
    return once().of(state);
  }

  int feed(int a, int b, int c, int d, int e) {
    return once().feed(a, b, c, d, e);
  }

  int end(int n) {
    return once().end(n);
  }

  int row() {
    return once().row();
  }

  int torn() {
    return once().torn();
  }

  int law() {
    return once().law();
  }

  int fault() {
    return once().fault();
  }

  int learn(int law) {
    return once().learn(law);
  }

  int next(int state, int news, int manner) {
    return once().next(state, news, manner);
  }

  int ways(int state, int news) {
    return once().ways(state, news);
  }

  int lasts(int state) {
    return once().lasts(state);
  }

  long mean(int state, int what) {
    return once().mean(state, what);
  }

  int reached(int state) {
    return once().reached(state);
  }

  int failing(int i) {
    return once().failing(i);
  }

  int hurts(int lamp) {
    return once().hurts(lamp);
  }

  int codes(int n, int k, int t) {
    return once().codes(n, k, t);
  }

  int make(int n, int k, int t) {
    return once().make(n, k, t);
  }

  int send(int news, int manner) {
    return once().send(news, manner);
  }

  int dawn() {
    return once().dawn();
  }

  int log(int i) {
    return once().log(i);
  }

  int burnt() {
    return once().burnt();
  }

  int trail() {
    return once().trail();
  }

  int judge(int manner) {
    return once().judge(manner);
  }

  long rows(int t, int state, int manner) {
    return once().rows(t, state, manner);
  }

  long could(int t, int state, int manner, int j, int news) {
    return once().could(t, state, manner, j, news);
  }

  int maybe(int state, int missed) {
    return once().maybe(state, missed);
  }

  int safe() {
    return once().safe();
  }

  int spy(int lit) {
    return once().spy(lit);
  }

  int want(int news) {
    return once().want(news);
  }

  int unwant() {
    return once().unwant();
  }

  int cheap(int what) {
    return once().cheap(what);
  }

  int plan(int i) {
    return once().plan(i);
  }

  int night(int seed, int many, int manner) {
    return once().night(seed, many, manner);
  }

  int drawn(int i) {
    return once().drawn(i);
  }

  int image(int k) {
    return once().image(k);
  }

  int back(int k) {
    return once().back(k);
  }

  int count(int what) {
    return once().count(what);
  }

  int status() {
    return once().status();
  }
}
