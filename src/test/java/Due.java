/** What the hand-written tests share: answers compared with what is due, and TEXTS put on the TAPE. */
final class Due {
  private int wrong = 0;
  private int asked = 0;

  void is(String call, int got, int want) {
    asked++;
    if (got != want) {
      wrong++;
      System.out.println(call + " answered " + got + ", due is " + want);
    }
  }

  void end(String name) {
    System.out.println(name + ": " + asked + " answers, " + wrong + " not as due");
    if (wrong != 0) System.exit(1);
  }

  /** The TAPE has just this text then. */
  static void put(CradleDuel x, String text) {
    x.end(0);
    for (int i = 0; i < text.length(); i += 20) {
      int[] five = new int[5];
      for (int k = 0; k < 20; k++) {
        int sign = i + k < text.length() ? text.charAt(i + k) : ' ';
        five[k / 4] = five[k / 4] << 8 | sign;
      }
      x.feed(five[0], five[1], five[2], five[3], five[4]);
    }
    x.end(text.length());
  }

  static int law(CradleDuel x, String text) {
    put(x, text);
    return x.law();
  }

  static int orders(CradleDuel x, String text) {
    put(x, text);
    return x.orders();
  }

  /** A LAW that must be read, in FORCE at once. */
  void inForce(CradleDuel x, String text) {
    int law = law(x, text);
    is("law " + text, law < 0 ? law : 0, 0);
    x.force(law);
  }

  void lawFaults(CradleDuel x, String text, int place) {
    is("law " + text, law(x, text), -6);
    is("fault of " + text, x.fault(), place);
    is("TAPE behind " + text, x.count(6), 0);
  }

  void ordersFault(CradleDuel x, String text, int place) {
    is("orders " + text, orders(x, text), -6);
    is("fault of " + text, x.fault(), place);
    is("stopped of " + text, x.stopped(), -1);
    is("TAPE behind " + text, x.count(6), 0);
  }

  /** Two clans: SINGERS 0 (WAKE a) and 1 (WAKE b), of CLANS 0 and 1, SKILLS 3 and 5. */
  static CradleDuel two(int a, int b) {
    CradleDuel x = new CradleDuel();
    x.singer(a, 3, 0);
    x.singer(b, 5, 1);
    return x;
  }
}
