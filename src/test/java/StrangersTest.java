/** Promises 32 to 36: SIGHTS, WAKE that FITS, sleep that is CATCHING, whom to KEEP awake. */
public final class StrangersTest {
  private static final Due DUE = new Due();

  private static void fits(CradleDuel x, int skill, int... due) {
    for (int i = 0; i < due.length; i++) DUE.is("fits(" + skill + ", " + i + ")", x.fits(skill, i), due[i]);
  }

  private static void sights() {
    CradleDuel x = Due.two(100, 80);
    DUE.is("no such VERSE", x.sight(0, 0, 0, 0, 0), -2);
    x.verse(40, 0);
    x.verse(500 % 99, 1);
    DUE.is("no such SINGER", x.sight(0, 2, 0, 0, 0), -2);
    DUE.is("no such SINGER", x.sight(0, -1, 0, 0, 0), -2);
    int[][] bad = {{0, 0, -1, 0, 0}, {0, 0, 12, 0, 0}, {0, 0, 0, 2, 0}, {0, 0, 0, -1, 0}, {0, 0, 0, 0, 2}, {9, 9, 0, 0, -1}};
    for (int[] b : bad) DUE.is("sight bad", x.sight(b[0], b[1], b[2], b[3], b[4]), -1);
    for (int i = 1; i <= 8; i++) DUE.is("sight", x.sight(1, 1, 11, 1, 0), i);
    DUE.is("no room", x.sight(1, 1, 11, 1, 0), -5);
    DUE.is("status", x.status(), -5);
    DUE.is("count(10)", x.count(10), 1);
    DUE.is("no such ahead of that", x.sight(2, 1, 11, 1, 0), -2);
    DUE.is("count(3)", x.count(3), 8);
    DUE.is("forget", x.forget(), 8);
    DUE.is("forget", x.forget(), 0);
    DUE.is("count(3)", x.count(3), 0);
    DUE.is("forget leaves the status", x.status(), -2);
  }

  private static void fitting() {
    CradleDuel x = Due.two(100, 80);
    fits(x, 0, 1, 999, 999, -1, -1, -1);
    DUE.is("SKILL -1", x.fits(-1, 0), -1);
    DUE.is("SKILL 10", x.fits(10, 2), -1);
    DUE.is("what -1", x.fits(0, -1), -1);
    x.verse(40, 0);
    x.verse(99, 1);
    fits(x, 9, 1, 999, 999, 1, 1, -1, -1);
    x.sight(0, 0, 2, 0, 0);
    // 40 and 2: above 42
    fits(x, 9, 43, 999, 957, 1);
    x.sight(1, 1, 1, 1, 0);
    // 200 more
    fits(x, 9, 243, 999, 757, 1);
    x.sight(1, 1, 1, 0, 1);
    fits(x, 9, 243, 342, 100, -1, -1);
    x.sight(1, 1, 1, 0, 0);
    fits(x, 9, -1, -1, 0, -1, -1);
    x.forget();
    x.sight(0, 0, 0, 0, 1);
    fits(x, 3, 1, 40, 40, -1);
    x.sight(0, 0, 0, 0, 1);
    fits(x, 3, -1, -1, 0, -1);
    x.forget();
    for (int i = 0; i < 8; i++) x.sight(1, 1, 11, 1, 0);
    fits(x, 3, -1, -1, 0, -1);
  }

  private static void fittingByLaw() {
    CradleDuel x = Due.two(100, 80);
    x.verse(40, 0);
    x.verse(99, 1);
    DUE.inForce(x, "lulls theirs * 10 + skill");
    x.sight(0, 0, 0, 0, 0);
    x.sight(0, 1, 0, 0, 1);
    // SKILLS of who sings are 3 and 5
    fits(x, 2, 24, 48, 25);
    fits(x, 0, 4, 8, 5);
    DUE.inForce(x, "lulls wake / 2 if wake > 100;lulls wake if wake < 10");
    x.forget();
    x.sight(0, 0, 0, 0, 0);
    // below 10 all is gone, up to 100 by STRONG, above 100 half
    fits(x, 2, 41, 999, 959);
    x.sight(0, 0, 0, 0, 0);
    // behind the first one: up to 60 that is 1 .. 60 of 41 .. 100, above 100 it is 51 .. 500; then more than 40 (and more than 9)
    fits(x, 2, 81, 999, 919);
    DUE.inForce(x, "lulls 500 if strong = 40;lulls wake - 1 if strong = 99;lulls 600 if strong = 99 and wake > 700");
    x.forget();
    // 40: 500 and 499; 99: nobody
    DUE.is("the more of both is least", x.fits(0, 3), 0);
    DUE.inForce(x, "lulls 0;lulls 2 if strong = 99 and theirs = 4;lulls 1 if theirs = 5;bars");
    DUE.is("the lowest", x.fits(0, 4), 0);
    DUE.is("by SKILL, BARRED or not", x.fits(4, 4), 1);
    DUE.is("the lowest", x.fits(5, 4), 0);
    DUE.inForce(x, "lulls 300 + day;lulls 300 if day > 0");
    x.sight(0, 0, 0, 0, 0);
    x.terms(0, 100);
    fits(x, 2, 301, 999, 699);
  }

  // the words of "lulls" alone tell whether WAKE matters, in whichever CLAUSE
  private static void fittingByWake() {
    String[] laws = {
      "lulls wake / 2", "tires 1;lulls wake / 2", "lulls wake / 2;tires 1", "lulls 9;lulls wake / 2;bars", "lulls wake / 2;lulls 5 if 1 = 2",
      "lulls 1 if wake > 10;lulls wake / 2"};
    for (String law : laws) {
      CradleDuel x = Due.two(100, 80);
      x.verse(40, 0);
      DUE.inForce(x, law);
      for (int i = 0; i < 3; i++) x.sight(0, 0, 0, 0, 0);
      fits(x, 1, 1, 999, 999, 0);
    }
    CradleDuel x = Due.two(100, 80);
    x.verse(40, 0);
    DUE.inForce(x, "lulls 100;tires wake;wakes wake;bars if wake > 0");
    x.sight(0, 0, 0, 0, 0);
    x.sight(0, 0, 0, 0, 0);
    fits(x, 1, 201, 999, 799, 0);
  }

  private static void halves() {
    CradleDuel x = Due.two(100, 80);
    x.verse(40, 0);
    x.verse(50, 0);
    // 501 and 498 by the first VERSE, 499 and 500 by the second
    DUE.inForce(x, "lulls 501;lulls 499 if strong = 50");
    DUE.is("the more of both is least", x.fits(0, 3), 1);
    // 500 and 499, 499 and 500
    DUE.inForce(x, "lulls 500;lulls 499 if strong = 50");
    DUE.is("the lowest", x.fits(0, 3), 0);
    DUE.inForce(x, "lulls 499;lulls 500 if strong = 50");
    DUE.is("the lowest", x.fits(0, 3), 0);
    DUE.inForce(x, "lulls 498;lulls 501 if strong = 50");
    DUE.is("501 each: the lowest", x.fits(0, 3), 0);
    DUE.inForce(x, "lulls same;lulls 1 + hour if strong = 50");
    DUE.is("HOUR 0, not SAME", x.fits(0, 3), 1);
    x.force(-1);
    x.image(0);
    // 599 and 549; in HOUR 1 the first VERSE would be the better one
    DUE.inForce(x, "lulls 400 + hour * 99;lulls 450 if strong = 50");
    DUE.is("HOUR 0", x.fits(0, 3), 1);
    x.back(0);
    DUE.inForce(x, "lulls 0;lulls 999 if strong = 50");
    DUE.is("999 sleeps, too: 999 each, the lowest", x.fits(0, 3), 0);
    x.back(0);
    DUE.inForce(x, "lulls 0;lulls 400 if strong = 40 and skill = 3;lulls 400 if strong = 50 and skill = 5");
    DUE.is("by who sings", x.fits(0, 3), 0);
    DUE.is("by who sings", x.fits(0, 4), 1);
    CradleDuel y = Due.two(100, 80);
    y.verse(40, 0);
    DUE.inForce(y, "lulls 998");
    y.sight(0, 0, 0, 0, 0);
    fits(y, 0, 999, 999, 1, 0);
    y.forget();
    DUE.inForce(y, "lulls 1");
    y.sight(0, 0, 0, 0, 1);
    fits(y, 0, 1, 1, 1, -1);
  }

  private static void catchingSleep() {
    CradleDuel x = new CradleDuel();
    DUE.is("no such", x.catching(0, 0), -1);
    int[] wakes = {999, 50, 51, 0, 50, 20};
    for (int w : wakes) x.singer(w, 1, 0);
    DUE.is("alone", x.catching(0, 0), 1);
    DUE.is("alone", x.catching(0, 1), 0);
    x.hears(1, 0, 1);
    x.hears(2, 0, 1);
    x.hears(3, 1, 1);
    x.hears(4, 2, 1);
    x.hears(5, 3, 1);
    x.hears(5, 0, 1);
    x.hears(0, 3, 1);
    DUE.is("1, 5, then 3", x.catching(0, 0), 1 | 2 | 32 | 8);
    DUE.is("rounds", x.catching(0, 1), 2);
    DUE.is("one way", x.catching(5, 0), 32);
    DUE.is("3: 5; 0 has too much WAKE", x.catching(3, 0), 8 | 32);
    DUE.is("what 2", x.catching(0, 2), -1);
    DUE.is("what -1", x.catching(0, -1), -1);
    DUE.is("no such", x.catching(6, 0), -1);
    DUE.is("no such", x.catching(-1, 0), -1);
    x.terms(2, 51);
    DUE.is("2 and 4, too", x.catching(0, 0), 63);
    DUE.is("rounds", x.catching(0, 1), 2);
    x.terms(2, 0);
    DUE.is("WAKE 0 alone", x.catching(1, 0), 2 | 8);
    DUE.is("on paper", x.of(3, 3), 0);
    x.terms(2, 999);
    DUE.is("3: 5, 0; 1, 2; 4", x.catching(3, 1), 3);
  }

  private static void keeping() {
    CradleDuel x = new CradleDuel();
    for (int i = 0; i < 7; i++) x.singer(10, 1, 0);
    // 0 is heard by 1, 2, 3; those by 4; 4 and 5 by 6; 1 by 5
    x.hears(1, 0, 1);
    x.hears(2, 0, 1);
    x.hears(3, 0, 1);
    x.hears(4, 1, 1);
    x.hears(4, 2, 1);
    x.hears(4, 3, 1);
    x.hears(6, 4, 1);
    DUE.is("4 is led away", x.keep(6, 0, 0), 1);
    DUE.is("4 is led away", x.keep(6, 0, 1), 16);
    DUE.is("1, 2, 3", x.keep(4, 0, 0), 3);
    DUE.is("1, 2, 3", x.keep(4, 0, 1), 14);
    x.hears(5, 1, 1);
    x.hears(6, 5, 1);
    DUE.is("1 and 4 rather than 4 and 5", x.keep(6, 0, 0), 2);
    DUE.is("the lowest", x.keep(6, 0, 1), 2 | 16);
    DUE.is("it can't be", x.keep(1, 0, 0), -1);
    DUE.is("it can't be", x.keep(1, 0, 1), -1);
    DUE.is("none need be", x.keep(0, 6, 0), 0);
    DUE.is("none need be", x.keep(0, 6, 1), 0);
    DUE.is("oneself", x.keep(3, 3, 0), -1);
    DUE.is("no such", x.keep(7, 0, 0), -1);
    DUE.is("no such", x.keep(0, 7, 0), -1);
    DUE.is("no such", x.keep(-1, 0, 0), -1);
    DUE.is("what 2", x.keep(6, 0, 2), -1);
    x.terms(2, 9);
    DUE.is("nobody is caught", x.keep(1, 0, 0), 0);
  }

  // SINGER 1 is ASLEEP by a DUEL with 0; six more of WAKE 10 in CLAN 0
  private static CradleDuel oneAsleep() {
    CradleDuel x = new CradleDuel();
    x.singer(900, 0, 0);
    x.singer(1, 0, 1);
    for (int i = 2; i < 8; i++) x.singer(10, 0, 0);
    x.verse(1, 0);
    x.begin(0, 1, 1);
    DUE.is("1 sleeps", x.sing(0), 0);
    DUE.is("1 sleeps", x.of(1, 3), 1);
    return x;
  }

  private static void catchingBesideAsleep() {
    CradleDuel x = oneAsleep();
    DUE.is("0 and 1", x.catching(0, 0), 3);
    DUE.is("no round", x.catching(0, 1), 0);
    DUE.is("who is ASLEEP falls ASLEEP", x.catching(1, 0), 2);
    DUE.is("no round", x.catching(1, 1), 0);
    x.hears(2, 1, 1);
    x.hears(3, 2, 1);
    x.hears(4, 3, 1);
    DUE.is("2, 3, 4 by 1, whoever falls ASLEEP", x.catching(7, 0), 2 | 4 | 8 | 16 | 128);
    DUE.is("three rounds", x.catching(7, 1), 3);
    x.hears(4, 7, 1);
    DUE.is("4 at once by 7", x.catching(7, 1), 2);
    x.hears(0, 1, 1);
    DUE.is("0 has too much WAKE", x.catching(1, 0), 2 | 4 | 8 | 16);
    x.terms(2, 9);
    DUE.is("all others have, too", x.catching(7, 0), 2 | 128);
    DUE.is("nobody", x.catching(7, 1), 0);
    x.terms(2, 50);
    DUE.is("on paper", x.of(2, 3), 0);
    x.image(0);
    x.dawn();
    x.terms(2, 999);
    DUE.is("nobody is ASLEEP behind a DAWN", x.catching(7, 0), 128 | 16);
    DUE.is("one round", x.catching(7, 1), 1);
    x.back(0);
    DUE.is("back to one ASLEEP", x.catching(7, 0), 2 | 4 | 8 | 16 | 128);
    CradleDuel z = Due.two(1, 1);
    z.verse(1, 0);
    z.begin(1, 0, 1);
    z.sing(0);
    DUE.is("SINGER 0 is ASLEEP", z.catching(1, 0), 3);
    DUE.is("SINGER 0 is ASLEEP", z.keep(0, 1, 0), -1);
    CradleDuel y = oneAsleep();
    y.undo();
    DUE.is("1 is not ASLEEP", y.catching(0, 0), 1);
    DUE.is("so it can be kept", y.keep(1, 0, 0), 0);
    y.hears(1, 0, 1);
    DUE.is("in a DUEL, too", y.catching(0, 0), 3);
  }

  private static void keepingBesideAsleep() {
    CradleDuel x = oneAsleep();
    DUE.is("1 is ASLEEP already", x.keep(1, 0, 0), -1);
    DUE.is("1 is ASLEEP already", x.keep(1, 0, 1), -1);
    DUE.is("none need be", x.keep(2, 0, 0), 0);
    DUE.is("none need be", x.keep(2, 1, 1), 0);
    x.hears(2, 1, 1);
    DUE.is("1 is led away: 2 hears no one ASLEEP", x.keep(2, 0, 0), 1);
    DUE.is("1 is led away", x.keep(2, 0, 1), 2);
    DUE.is("who falls ASLEEP can't be led away", x.keep(2, 1, 0), -1);
    x.hears(3, 2, 1);
    x.hears(3, 0, 1);
    DUE.is("3 hears 0", x.keep(3, 0, 0), -1);
    DUE.is("by 1 and 2: 1 is the lower", x.keep(3, 7, 1), 2);
    DUE.is("2 alone can be", x.keep(3, 1, 1), 4);
    x.hears(4, 3, 1);
    x.hears(4, 7, 1);
    x.hears(5, 4, 1);
    DUE.is("4", x.keep(5, 7, 1), 16);
    x.hears(5, 3, 1);
    DUE.is("1 or 2 or 3, and 4", x.keep(5, 7, 0), 2);
    DUE.is("1 and 4", x.keep(5, 7, 1), 2 | 16);
    x.dawn();
    x.terms(2, 999);
    DUE.is("nobody is ASLEEP behind a DAWN", x.keep(1, 0, 0), 0);
    DUE.is("4 alone", x.keep(5, 7, 1), 16);
  }

  public static void main(String[] args) {
    sights();
    fitting();
    fittingByLaw();
    fittingByWake();
    halves();
    catchingSleep();
    keeping();
    catchingBesideAsleep();
    keepingBesideAsleep();
    DUE.end("promises 32 to 36");
  }
}
