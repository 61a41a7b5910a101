import java.util.List;

/** Terms III, as strangers are seen and sleep is catching, and promises 32 to 36: the words that name an edge, each by itself. */
public final class EdgesOfStrangersTest {
  private static final Due DUE = new Due();

  // VERSES 0 (STRONG 20) and 1 (STRONG 40), by a LAW if there is one
  private static CradleDuel hills(String law) {
    CradleDuel x = Due.two(100, 80);
    x.verse(20, 1);
    x.verse(40, 2);
    if (law != null) DUE.inForce(x, law);
    return x;
  }

  private static void fits(CradleDuel x, int least, int greatest, int many) {
    DUE.is("the least", x.fits(2, 0), least);
    DUE.is("the greatest", x.fits(2, 1), greatest);
    DUE.is("how many", x.fits(2, 2), many);
  }

  private static void sightsAtMost() {
    DUE.says("I: SIGHTS, 8 at most", "32: A SIGHT: how many there are.", "32: -5.");
    CradleDuel x = hills(null);
    for (int i = 1; i <= 8; i++) {
      DUE.is("SIGHT " + i, x.sight(0, 0, 0, 0, 0), i);
      DUE.is("count(3)", x.count(3), i);
    }
    List<String> ahead = Due.look(x);
    DUE.refused(x, "the 9th", x.sight(1, 1, 1, 1, 1), -5);
    DUE.same("the 9th", ahead, Due.look(x));
    // eight of 20
    fits(x, 161, 999, 839);
    DUE.is("forget", x.forget(), 8);
    DUE.is("there is room again", x.sight(0, 0, 0, 0, 0), 1);
  }

  private static void numbersOfASight() {
    DUE.says("I: a VERSE sung by a SINGER in an HOUR, in the KEY behind one or not (SAME 0, 1): it was heard by a stranger of told SKILL"
        + " who then slept (1) or did not (0).", "32: -1;");
    DUE.range("HOUR", 0, 11, -1, hour -> hills(null).sight(0, 0, hour, 0, 0));
    DUE.range("SAME", 0, 1, -1, same -> hills(null).sight(0, 0, 0, same, 0));
    DUE.range("slept", 0, 1, -1, slept -> hills(null).sight(0, 0, 0, 0, slept));
    CradleDuel x = hills(null);
    DUE.refused(x, "HOUR 12", x.sight(0, 0, 12, 0, 0), -1);
    DUE.refused(x, "SAME 2", x.sight(0, 0, 0, 2, 0), -1);
    DUE.refused(x, "slept -1", x.sight(0, 0, 0, 0, -1), -1);
    DUE.refused(x, "ahead of no such VERSE", x.sight(2, 0, 12, 0, 0), -1);
    DUE.refused(x, "ahead of no such SINGER", x.sight(0, 2, 0, 2, 0), -1);
    for (int i = 0; i < 8; i++) x.sight(0, 0, 0, 0, 0);
    DUE.refused(x, "ahead of no room", x.sight(0, 0, 0, 0, 2), -1);
    DUE.is("SIGHTS", x.count(3), 8);
  }

  private static void noSuch() {
    DUE.says("32: -2;");
    DUE.range("VERSE", 0, 1, -2, verse -> hills(null).sight(verse, 0, 0, 0, 0));
    DUE.range("SINGER", 0, 1, -2, singer -> hills(null).sight(0, singer, 0, 0, 0));
    CradleDuel x = hills(null);
    for (int i = 0; i < 8; i++) x.sight(0, 0, 0, 0, 0);
    DUE.refused(x, "ahead of no room", x.sight(2, 0, 0, 0, 0), -2);
    DUE.refused(x, "ahead of no room", x.sight(0, 2, 0, 0, 0), -2);
    DUE.refused(x, "no room", x.sight(0, 0, 0, 0, 0), -5);
    DUE.is("no VERSES, no SINGERS", new CradleDuel().sight(0, 0, 0, 0, 0), -2);
  }

  private static void forgets() {
    DUE.says("33: SIGHTS are none then: how many there were.");
    CradleDuel x = hills(null);
    DUE.is("none", x.forget(), 0);
    for (int many = 1; many <= 8; many++) {
      for (int i = 0; i < many; i++) x.sight(1, 0, 0, 0, 1);
      DUE.is("how many", x.forget(), many);
      DUE.is("none then", x.count(3), 0);
      DUE.is("none then", x.forget(), 0);
    }
    fits(x, 1, 999, 999);
  }

  private static void skillsOfStrangers() {
    DUE.says("34: WAKE that FITS a stranger of a SKILL 0 .. 9", "34: NONE (none, for 0, 1; no VERSES; none awake, for 3).");
    CradleDuel x = hills(null);
    for (int what = 0; what < 5; what++) {
      int asked = what;
      DUE.range("SKILL", 0, 9, -1, skill -> x.fits(skill, asked));
    }
    DUE.range("what", 0, 4, -1, what -> x.fits(0, what));
    CradleDuel none = Due.two(100, 80);
    DUE.is("no VERSES", none.fits(0, 3), -1);
    DUE.is("no VERSES", none.fits(0, 2), 999);
    CradleDuel alone = new CradleDuel();
    alone.verse(20, 1);
    DUE.is("no SINGERS", alone.fits(0, 3), -1);
    DUE.is("no SINGERS", alone.fits(0, 0) * 1000 + alone.fits(0, 1), 1999);
    x.sight(1, 0, 0, 0, 1);
    DUE.is("none awake", x.fits(0, 3), -1);
    DUE.is("none awake", x.fits(0, 4), -1);
    DUE.is("though they FIT", x.fits(0, 2), 40);
    x.sight(1, 0, 0, 0, 1);
    for (int what = 0; what < 5; what++) DUE.is("none FITS", x.fits(0, what), what == 2 ? 0 : -1);
    DUE.is("status", x.status(), 0);
  }

  private static void whoDidNotSleep() {
    DUE.says("III: WAKE that FITS: by which a stranger slept just behind the last SIGHT that tells so", "III: 1 .. 999.");
    int[] lulls = {0, 1, 2, 500, 997, 998, 999};
    for (int lull : lulls) {
      CradleDuel x = hills("lulls " + lull);
      x.sight(0, 0, 0, 0, 0);
      fits(x, lull < 999 ? lull + 1 : -1, lull < 999 ? 999 : -1, 999 - lull);
      CradleDuel y = hills("lulls " + lull);
      y.sight(0, 0, 0, 0, 1);
      fits(y, lull > 0 ? 1 : -1, lull > 0 ? lull : -1, lull);
      CradleDuel both = hills("lulls 7;lulls " + lull + " if strong = 40");
      both.sight(0, 0, 0, 0, 0);
      both.sight(1, 0, 0, 0, 1);
      int most = Math.min(999, 7 + lull);
      fits(both, lull > 0 ? 8 : -1, lull > 0 ? most : -1, lull > 0 ? most - 7 : 0);
    }
    CradleDuel many = hills("lulls 142");
    for (int i = 0; i < 7; i++) many.sight(0, 0, 0, 0, 0);
    fits(many, 995, 999, 5);
    many.sight(0, 0, 0, 0, 1);
    fits(many, 995, 999, 5);
    CradleDuel more = hills("lulls 125");
    for (int i = 0; i < 8; i++) more.sight(0, 0, 0, 0, 0);
    fits(more, -1, -1, 0);
  }

  private static void inOrder() {
    DUE.says("III: (SIGHTS in order; none behind one by which one slept)");
    CradleDuel x = hills(null);
    x.sight(0, 0, 0, 0, 0);
    x.sight(1, 0, 0, 0, 1);
    fits(x, 21, 60, 40);
    x.forget();
    x.sight(1, 0, 0, 0, 0);
    x.sight(0, 0, 0, 0, 1);
    fits(x, 41, 60, 20);
    x.sight(0, 0, 0, 0, 0);
    fits(x, -1, -1, 0);
    x.forget();
    x.sight(0, 0, 0, 0, 1);
    x.sight(1, 0, 0, 0, 1);
    fits(x, -1, -1, 0);
    x.forget();
    x.sight(0, 0, 0, 0, 1);
    x.sight(0, 0, 0, 0, 0);
    fits(x, -1, -1, 0);
    // by WAKE that is left: a half, then below 100 nothing
    CradleDuel y = hills("lulls wake / 2;lulls 0 if wake < 100");
    for (int i = 0; i < 8; i++) y.sight(0, 0, 0, 0, 0);
    fits(y, 1, 999, 999);
    CradleDuel z = hills("lulls 100;lulls 999 if wake < 100");
    z.sight(0, 0, 0, 0, 0);
    // up to 100 one sleeps; 101 .. 199 have 1 .. 99 left
    fits(z, 101, 999, 899);
    z.sight(0, 0, 0, 0, 0);
    fits(z, 201, 999, 799);
    z.sight(0, 0, 0, 0, 1);
    fits(z, 201, 300, 100);
  }

  private static void asItWasSeen() {
    DUE.says("34: the least (what 0), the greatest (1), how many (2; 0)");
    int[][] all = {{0, 0, 20}, {11, 0, 31}, {0, 1, 40}, {11, 1, 62}};
    for (int[] a : all) {
      CradleDuel x = hills(null);
      x.sight(0, 0, a[0], a[1], 0);
      fits(x, a[2] + 1, 999, 999 - a[2]);
    }
    CradleDuel x = hills("lulls theirs * 100 + skill * 10 + key");
    x.sight(1, 0, 0, 0, 0);
    for (int skill = 0; skill < 10; skill++) DUE.is("theirs " + skill, x.fits(skill, 0), skill * 100 + 30 + 2 + 1);
    x.forget();
    x.sight(0, 1, 0, 0, 0);
    DUE.is("SKILL of who sings", x.fits(2, 0), 200 + 50 + 1 + 1);
    CradleDuel y = hills("lulls day + mood;bars;tires 99");
    y.terms(0, 400);
    y.terms(3, 9);
    y.sight(0, 0, 0, 0, 0);
    fits(y, 410, 999, 590);
    y.terms(0, 0);
    fits(y, 10, 999, 990);
  }

  // nothing that was asked ahead matters
  private static void eachByItself() {
    DUE.says("34: the least (what 0), the greatest (1), how many (2; 0), the VERSE a SINGER sings next (3 + SINGER).");
    int[] due = {201, 999, 799, 1, 1};
    int[] other = {601, 999, 399, 0, 0};
    for (int what = 0; what < 5; what++) {
      CradleDuel x = hills("lulls theirs * 100;lulls 400 if strong = 40");
      x.sight(0, 0, 0, 0, 0);
      DUE.is("fits(2, " + what + ")", x.fits(2, what), due[what]);
      DUE.is("fits(6, " + what + ")", x.fits(6, what), other[what]);
      DUE.is("fits(2, " + what + ") again", x.fits(2, what), due[what]);
      x.forget();
      int[] none = {1, 999, 999, 1, 1};
      DUE.is("without SIGHTS", x.fits(2, what), none[what]);
    }
  }

  // "wake" in whichever CLAUSE, behind LAWS that have others
  private static void byWakeInAnyClause() {
    DUE.says("III: by which a stranger slept just behind the last SIGHT that tells so");
    for (int place = 0; place < 12; place++) {
      CradleDuel x = hills(null);
      Due.law(x, "bars if 1 = 2" + ";tires 1".repeat(11));
      StringBuilder law = new StringBuilder();
      for (int i = 0; i < 12; i++) law.append(i > 0 ? ";" : "").append(i == place ? "lulls wake / 2" : i % 2 == 0 ? "tires 5" : "wakes 5");
      DUE.inForce(x, law.toString());
      for (int i = 0; i < 3; i++) x.sight(0, 0, 0, 0, 0);
      fits(x, 1, 999, 999);
      DUE.inForce(x, law.toString().replace("wake / 2", "1 + 0 * strong if wake > 500"));
      // 20 each, 1 each above 500: 502 has 499 left behind two
      x.sight(0, 0, 0, 0, 0);
      fits(x, 81, 999, 919);
    }
  }

  private static void nextVerse() {
    DUE.says("III: The VERSE to sing next (by a told SINGER, HOUR 0, not SAME): by which the more of both (slept, did not) is least, the lowest.",
        "34: the VERSE a SINGER sings next (3 + SINGER).");
    next(hills("lulls 500;lulls 499 if strong = 40"), 0, 0);
    next(hills("lulls 501;lulls 499 if strong = 40"), 1, 1);
    next(hills("lulls 498;lulls 499 if strong = 40"), 1, 1);
    next(hills("lulls 0;lulls 999 if strong = 40"), 0, 0);
    next(hills("lulls 0;lulls 1 if strong = 40"), 1, 1);
    next(hills("lulls 999;lulls 998 if strong = 40"), 1, 1);
    next(hills("lulls 0;lulls 400 if strong = 20 and skill = 3;lulls 400 if strong = 40 and skill = 5"), 0, 1);
    next(hills("lulls hour * 40;lulls 1 if strong = 40"), 1, 1);
    next(hills("lulls same * 500;lulls 1 if strong = 40"), 1, 1);
    next(hills("lulls 400;lulls 450 if strong = 40;bars if strong = 40"), 1, 1);
    // VERSE 0 sends 500 of 899 to sleep, VERSE 1 430, by what is left of WAKE
    CradleDuel x = hills("lulls 500;lulls 430 if strong = 40;lulls 100 if hour = 1");
    x.sight(0, 0, 1, 0, 0);
    next(x, 1, 1);
    // 998 or 999 with 1, 2 left: 1 of both, all of both
    CradleDuel y = hills("lulls 997;lulls 1 if strong = 40");
    y.sight(0, 0, 0, 0, 0);
    fits(y, 998, 999, 2);
    next(y, 1, 1);
    CradleDuel one = hills("lulls 998;lulls 1 if strong = 40");
    one.sight(0, 0, 0, 0, 0);
    fits(one, 999, 999, 1);
    next(one, 0, 0);
  }

  private static void next(CradleDuel x, int bySinger0, int bySinger1) {
    DUE.is("fits(2, 3)", x.fits(2, 3), bySinger0);
    DUE.is("fits(2, 4)", x.fits(2, 4), bySinger1);
    DUE.is("no SINGER 2", x.fits(2, 5), -1);
  }

  private static CradleDuel singers(int... wakes) {
    CradleDuel x = new CradleDuel();
    for (int wake : wakes) x.singer(wake, 1, 0);
    return x;
  }

  private static void catching(CradleDuel x, int singer, int bits, int rounds) {
    DUE.is("catching(" + singer + ", 0)", x.catching(singer, 0), bits);
    DUE.is("catching(" + singer + ", 1)", x.catching(singer, 1), rounds);
  }

  private static void noCatching() {
    DUE.says("35: CATCHING from a SINGER: who is ASLEEP in the end, as bits (what 0), in how many rounds (1).", "35: NONE.");
    CradleDuel x = singers(1, 1, 1);
    DUE.range("SINGER", 0, 2, -1, singer -> x.catching(singer, 0));
    DUE.range("SINGER", 0, 2, -1, singer -> x.catching(singer, 1));
    DUE.range("what", 0, 1, -1, what -> x.catching(2, what));
    DUE.is("no SINGERS", new CradleDuel().catching(0, 0), -1);
    catching(x, 2, 4, 0);
    DUE.is("status", x.status(), 0);
  }

  private static void wakeOfCatch() {
    DUE.says("III: all who HEAR one that is ASLEEP and have WAKE of CATCH at most");
    int[][] all = {{0, 0, 1}, {0, 1, 0}, {50, 49, 1}, {50, 50, 1}, {50, 51, 0}, {999, 999, 1}, {998, 999, 0}};
    for (int[] a : all) {
      CradleDuel x = singers(999, a[1], a[1]);
      x.terms(2, a[0]);
      x.hears(1, 0, 1);
      catching(x, 0, a[2] == 1 ? 3 : 1, a[2]);
      // who hears nobody ASLEEP is not caught; who is heard is not caught by that
      catching(x, 2, 4, 0);
      catching(x, 1, 2, 0);
      x.hears(2, 1, 1);
      catching(x, 0, a[2] == 1 ? 7 : 1, 2 * a[2]);
    }
  }

  private static void roundByRound() {
    DUE.says("III: CATCHING: one falls ASLEEP; then, round by round", "III: who is ASLEEP in the end, in how many rounds.");
    CradleDuel x = singers(1, 1, 1, 1, 1, 1, 1, 1);
    for (int i = 1; i < 8; i++) x.hears(i, i - 1, 1);
    for (int i = 0; i < 8; i++) catching(x, i, 255 & -(1 << i), 7 - i);
    x.hears(0, 7, 1);
    for (int i = 0; i < 8; i++) catching(x, i, 255, 7);
    x.hears(7, 3, 1);
    catching(x, 0, 255, 6);
    CradleDuel y = singers(1, 1, 1, 1, 1, 1, 1, 1);
    for (int i = 0; i < 8; i++) for (int j = 0; j < 8; j++) if (i != j) y.hears(i, j, 1);
    for (int i = 0; i < 8; i++) catching(y, i, 255, 1);
    // backwards: each hears the next one, all fall ASLEEP in rounds of their own
    CradleDuel z = singers(1, 1, 1, 1, 1, 1, 1, 1);
    for (int i = 0; i < 7; i++) z.hears(i, i + 1, 1);
    for (int i = 0; i < 8; i++) catching(z, i, (2 << i) - 1, i);
  }

  private static void asleepAlready() {
    DUE.says("III: who is ASLEEP in the end");
    CradleDuel x = new CradleDuel();
    for (int i = 0; i < 8; i++) x.singer(10, 1, i % 2);
    x.verse(99, 0);
    x.begin(0, 7, 1);
    x.sing(0);
    DUE.is("7 is ASLEEP", x.of(7, 3), 1);
    catching(x, 7, 128, 0);
    catching(x, 1, 130, 0);
    x.hears(2, 7, 1);
    catching(x, 1, 134, 1);
    x.begin(2, 3, 1);
    x.sing(0);
    catching(x, 1, 128 | 8 | 4 | 2, 1);
    x.dawn();
    x.terms(2, 999);
    catching(x, 1, 2, 0);
    catching(x, 7, 132, 1);
  }

  private static void keep(CradleDuel x, int one, int other, int many, int bits) {
    DUE.is("keep(" + one + ", " + other + ", 0)", x.keep(one, other, 0), many);
    DUE.is("keep(" + one + ", " + other + ", 1)", x.keep(one, other, 1), bits);
  }

  private static void noKeeping() {
    DUE.says("36: NONE (the same one; it can't be).");
    CradleDuel x = singers(1, 1, 1);
    for (int i = -1; i < 4; i++) keep(x, i, i, -1, -1);
    DUE.range("one", 0, 1, -1, one -> x.keep(one, 2, 0));
    DUE.range("other", 0, 1, -1, other -> x.keep(2, other, 0));
    DUE.is("one 3", x.keep(3, 0, 0), -1);
    DUE.is("other 3", x.keep(0, 3, 0), -1);
    DUE.range("what", 0, 1, -1, what -> x.keep(0, 1, what));
    x.hears(1, 0, 1);
    keep(x, 1, 0, -1, -1);
    DUE.is("status", x.status(), 0);
    CradleDuel y = Due.two(100, 10);
    y.singer(10, 0, 0);
    y.verse(20, 0);
    y.begin(0, 1, 1);
    y.sing(0);
    keep(y, 1, 0, -1, -1);
    keep(y, 1, 2, -1, -1);
    keep(y, 2, 1, 0, 0);
  }

  private static void fewestLedAway() {
    DUE.says("III: To KEEP one awake, when another one falls ASLEEP: the fewest others who are led away (they neither hear nor are heard), the lowest as bits.",
        "36: To KEEP one awake, when another one falls ASLEEP: how many (what 0), who, as bits (1).");
    CradleDuel x = singers(1, 1, 1, 1, 1, 1, 1, 1);
    keep(x, 7, 0, 0, 0);
    for (int i = 1; i < 7; i++) {
      x.hears(i, 0, 1);
      keep(x, 7, 0, i - 1, (1 << i) - 2);
      x.hears(7, i, 1);
      keep(x, 7, 0, i, (2 << i) - 2);
    }
    x.hears(7, 0, 1);
    keep(x, 7, 0, -1, -1);
    // a chain: any of six, the lowest
    CradleDuel y = singers(1, 1, 1, 1, 1, 1, 1, 1);
    for (int i = 1; i < 8; i++) y.hears(i, i - 1, 1);
    keep(y, 7, 0, 1, 2);
    keep(y, 7, 5, 1, 64);
    keep(y, 7, 6, -1, -1);
    keep(y, 0, 7, 0, 0);
    y.terms(2, 0);
    keep(y, 7, 6, 0, 0);
    // downwards, the lowest is the last but one
    CradleDuel z = singers(1, 1, 1, 1, 1, 1, 1, 1);
    for (int i = 0; i < 7; i++) z.hears(i, i + 1, 1);
    keep(z, 0, 7, 1, 2);
    // one higher alone is fewer than two lower
    CradleDuel w = singers(1, 1, 1, 1, 1);
    w.hears(1, 3, 1);
    w.hears(2, 3, 1);
    w.hears(3, 4, 1);
    w.hears(0, 1, 1);
    w.hears(0, 2, 1);
    keep(w, 0, 4, 1, 8);
  }

  private static void whoHasTooMuchWake() {
    DUE.says("III: have WAKE of CATCH at most");
    CradleDuel x = singers(1, 51, 50);
    x.hears(1, 0, 1);
    x.hears(2, 1, 1);
    keep(x, 1, 0, 0, 0);
    keep(x, 2, 0, 0, 0);
    keep(x, 2, 1, -1, -1);
    x.terms(2, 51);
    keep(x, 1, 0, -1, -1);
    keep(x, 2, 0, 1, 2);
  }

  public static void main(String[] args) {
    sightsAtMost();
    numbersOfASight();
    noSuch();
    forgets();
    skillsOfStrangers();
    whoDidNotSleep();
    inOrder();
    asItWasSeen();
    eachByItself();
    byWakeInAnyClause();
    nextVerse();
    noCatching();
    wakeOfCatch();
    roundByRound();
    asleepAlready();
    noKeeping();
    fewestLedAway();
    whoHasTooMuchWake();
    DUE.end("edges of promises 32 to 36");
  }
}
