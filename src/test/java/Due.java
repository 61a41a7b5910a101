import java.util.ArrayList;
import java.util.List;

/** What the hand-written tests share: answers compared with what is due, and TEXTS put on the TAPE. */
final class Due {
  /** Numbers that no call's argument can be, far away on both sides, some of them good again if cut to fewer bits. */
  static final int[] FAR = {Integer.MIN_VALUE, Integer.MIN_VALUE + 1, -65536, -256, 65536, 1 << 24, Integer.MAX_VALUE - 1, Integer.MAX_VALUE};

  /** A call with one number left open. */
  interface OfOne { int of(int value); }

  private int wrong = 0;
  private int asked = 0;
  private int askedOfThese = 0;
  private String[] sentences = {};
  private int allSentences = 0;

  /** The document's words, "where: words", that the answers up to the next says() are held against. */
  void says(String... words) {
    closeSentences();
    sentences = words;
    allSentences += words.length;
    askedOfThese = 0;
  }

  // words that nothing is held against would be no test
  private void closeSentences() {
    if (sentences.length > 0 && askedOfThese == 0) {
      wrong++;
      System.out.println("nothing is asked of \"" + String.join("\", \"", sentences) + "\"");
    }
  }

  void is(String call, int got, int want) {
    asked++;
    askedOfThese++;
    if (got != want) {
      wrong++;
      System.out.println(call + " answered " + got + ", due is " + want + by());
    }
  }

  private String by() {
    return sentences.length == 0 ? "" : " by \"" + String.join("\", \"", sentences) + "\"";
  }

  /** From least to most it is taken (not below 0), just beyond and far away it is refused. */
  void range(String name, int least, int most, int refusal, OfOne call) {
    is(name + " " + least + " is taken", Math.min(0, call.of(least)), 0);
    is(name + " " + most + " is taken", Math.min(0, call.of(most)), 0);
    is(name + " " + (least - 1), call.of(least - 1), refusal);
    is(name + " " + (most + 1), call.of(most + 1), refusal);
    far(name, refusal, call);
  }

  void far(String name, int refusal, OfOne call) {
    for (int value : FAR) is(name + " " + value, call.of(value), refusal);
  }

  /** A call that is REFUSED: its answer and the status. */
  void refused(CradleDuel x, String call, int got, int want) {
    is(call, got, want);
    is("status behind " + call, x.status(), want);
  }

  void same(String call, List<String> ahead, List<String> behind) {
    is("how much is seen behind " + call, behind.size(), ahead.size());
    for (int i = 0; i < Math.min(ahead.size(), behind.size()); i++) {
      asked++;
      askedOfThese++;
      if (!ahead.get(i).equals(behind.get(i))) {
        wrong++;
        System.out.println("behind " + call + " " + behind.get(i) + ", due is " + ahead.get(i) + by());
      }
    }
  }

  void end(String name) {
    closeSentences();
    String told = allSentences == 0 ? "" : allSentences + " of the document's words, ";
    System.out.println(name + ": " + told + asked + " answers, " + wrong + " not as due");
    if (wrong != 0) System.exit(1);
  }

  /** All that can be seen of an object without changing it, but for its status and how often it REFUSED. */
  static List<String> look(CradleDuel x) {
    List<String> all = new ArrayList<>();
    int singers = x.count(0);
    int verses = x.count(1);
    for (int i = 0; i < 19; i++) if (i < 7 || i > 11) all.add("count(" + i + ") is " + x.count(i));
    for (int i = 0; i < singers; i++) {
      for (int what = 0; what < 5; what++) all.add("of(" + i + ", " + what + ") is " + x.of(i, what));
      all.add("wakes(" + i + ") is " + x.wakes(i));
      all.add("catching(" + i + ", 0) is " + x.catching(i, 0));
      for (int what = 0; what < 3; what++) all.add("drawn(" + i + ", " + what + ") is " + x.drawn(i, what));
    }
    for (int i = 0; i < verses; i++) {
      all.add("at(" + i + ", 0) is " + x.at(i, 0));
      all.add("at(" + i + ", 1) is " + x.at(i, 1));
      all.add("asks(" + i + ", 0) is " + x.asks(i, 0));
    }
    for (int i = 0; i < 6; i++) all.add("duel(" + i + ") is " + x.duel(i));
    for (int i = -1; i < 4; i++) all.add("made(36, " + i + ") is " + x.made(36, i));
    for (int i = 2; i < 6; i++) all.add("made(" + i + ", -1) is " + x.made(i, -1));
    for (int i = 0; i < 4; i++) all.add("fits(2, " + i + ") is " + x.fits(2, i));
    for (int i = 0; i < 3; i++) all.add("game(2, " + i + ") is " + x.game(2, i));
    for (int i = 0; i < 4; i++) all.add("champions(" + i + ") is " + x.champions(i));
    all.add("fault() is " + x.fault());
    all.add("stopped() is " + x.stopped());
    all.add("coughs() is " + x.coughs());
    return all;
  }

  /** The TAPE has just this text then. */
  static void put(CradleDuel x, String text) {
    x.end(0);
    for (int i = 0; i < text.length(); i += 20) {
      int[] five = new int[5];
      for (int k = 0; k < 20; k++) {
        int sign = i + k < text.length() ? text.charAt(i + k) : ' ';
        five[k / 4] = five[k / 4] << 8 | sign;
      }
      x.feed(five[0], five[1], five[2], five[3], five[4]);
    }
    x.end(text.length());
  }

  static int law(CradleDuel x, String text) {
    put(x, text);
    return x.law();
  }

  static int orders(CradleDuel x, String text) {
    put(x, text);
    return x.orders();
  }

  /** A LAW that must be read, in FORCE at once. */
  void inForce(CradleDuel x, String text) {
    int law = law(x, text);
    is("law " + text, law < 0 ? law : 0, 0);
    x.force(law);
  }

  void lawFaults(CradleDuel x, String text, int place) {
    is("law " + text, law(x, text), -6);
    is("fault of " + text, x.fault(), place);
    is("TAPE behind " + text, x.count(6), 0);
  }

  /** law() where there is no room: the TAPE is empty then, the FAULT stays. */
  void lawless(CradleDuel x, String text) {
    int fault = x.fault();
    refused(x, "law " + text + " without room", law(x, text), -5);
    is("TAPE behind " + text, x.count(6), 0);
    is("fault behind " + text, x.fault(), fault);
  }

  void ordersFault(CradleDuel x, String text, int place) {
    is("orders " + text, orders(x, text), -6);
    is("fault of " + text, x.fault(), place);
    is("stopped of " + text, x.stopped(), -1);
    is("TAPE behind " + text, x.count(6), 0);
  }

  /** Two clans: SINGERS 0 (WAKE a) and 1 (WAKE b), of CLANS 0 and 1, SKILLS 3 and 5. */
  static CradleDuel two(int a, int b) {
    CradleDuel x = new CradleDuel();
    x.singer(a, 3, 0);
    x.singer(b, 5, 1);
    return x;
  }

  /** Those two, VERSES 0 (STRONG 20, KEY 1) and 1 (STRONG 40, KEY 2), in a DUEL for 9. */
  static CradleDuel duel(int a, int b) {
    CradleDuel x = two(a, b);
    x.verse(20, 1);
    x.verse(40, 2);
    x.begin(0, 1, 9);
    return x;
  }
}
