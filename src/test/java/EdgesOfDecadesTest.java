import java.util.List;

/** Terms IV, as DECADES are drawn, and promises 37 and 38: the words that name an edge, each by itself. */
public final class EdgesOfDecadesTest {
  private static final Due DUE = new Due();

  // three SINGERS of each CLAN, 0 to 2 of CLAN 0, WAKE 100; STRONG 10, 11, 12
  private static CradleDuel six(String law) {
    CradleDuel x = new CradleDuel();
    for (int i = 0; i < 6; i++) x.singer(100, i, i / 3);
    for (int i = 0; i < 3; i++) x.verse(10 + i, i);
    if (law != null) DUE.inForce(x, law);
    return x;
  }

  private static void numbersOfADecade() {
    DUE.says("IV: A DECADE with a SEED, n DAYS 1 .. 60", "IV: s is the SEED (0 .. 1,000,000)", "37: -1;");
    CradleDuel x = six(null);
    x.decade(3, 3);
    List<String> ahead = Due.look(x);
    DUE.refused(x, "SEED -1", x.decade(-1, 1), -1);
    DUE.refused(x, "SEED 1,000,001", x.decade(1000001, 1), -1);
    DUE.refused(x, "SEED far below", x.decade(Integer.MIN_VALUE, 1), -1);
    DUE.refused(x, "SEED far above", x.decade(Integer.MAX_VALUE, 1), -1);
    DUE.refused(x, "no DAYS", x.decade(0, 0), -1);
    DUE.refused(x, "61 DAYS", x.decade(0, 61), -1);
    DUE.refused(x, "DAYS below 0", x.decade(0, -1), -1);
    DUE.same("decade", ahead, Due.look(x));
    DUE.is("count(7)", x.count(7), 7);
    DUE.far("n", -1, n -> x.decade(5, n));
    DUE.is("SEED 0", Math.min(0, x.decade(0, 1)), 0);
    DUE.is("SEED 1,000,000", Math.min(0, x.decade(1000000, 60)), 0);
    DUE.is("status", x.status(), 0);
  }

  private static void cannotBe() {
    DUE.says("37: -3 (no VERSES; a CLAN has no SINGER).");
    CradleDuel none = new CradleDuel();
    DUE.refused(none, "nothing", none.decade(0, 1), -3);
    DUE.refused(none, "a number that can't be comes first", none.decade(0, 0), -1);
    CradleDuel noVerses = Due.two(100, 80);
    DUE.refused(noVerses, "no VERSES", noVerses.decade(0, 1), -3);
    for (int clan = 0; clan < 2; clan++) {
      CradleDuel x = new CradleDuel();
      x.verse(1, 1);
      x.singer(100, 1, clan);
      x.singer(100, 1, clan);
      DUE.refused(x, "one CLAN alone", x.decade(0, 1), -3);
      DUE.is("none is kept", x.drawn(0, 0), -1);
      x.singer(100, 1, 1 - clan);
      DUE.is("one of the other CLAN", Math.min(0, x.decade(0, 1)), 0);
      DUE.is("status", x.status(), 0);
    }
  }

  private static void drawsByHand() {
    DUE.says("IV: a DRAW of m: s becomes (s times 1103 and 12345) modulo 1,000,003, it is s modulo m.",
        "IV: Each DAY DRAWS of SINGERS of CLAN 0, of CLAN 1, of 20 (STAKE, less 1)");
    CradleDuel x = six("lulls 999;tires 0;wakes 1");
    // s: 12345 (3 divides it), 628841 (2 is left), 621889 (9 is left of 20)
    DUE.is("SEED 0", x.decade(0, 1), 1);
    lost(x, 0, 0, 0, 0, 0, 1);
    DUE.is("STAKE 10", x.drawn(0, 1) * 1000 + x.drawn(1, 1), 110090);
    // s: 9036 (0), 979026 (0), 874786 (6)
    DUE.is("SEED 1,000,000", x.decade(1000000, 1), 1);
    lost(x, 0, 0, 0, 1, 0, 0);
    DUE.is("STAKE 7", x.drawn(0, 1) * 1000 + x.drawn(1, 1), 107093);
    // who wins by the second VERSE tells who was drawn of CLAN 0
    CradleDuel y = six("tires 0;wakes 1;lulls 0;lulls 999 if skill > 2");
    // s of SEED 1: 13448 (2 is left of 3), 845447 (2), 537590 (10 of 20)
    DUE.is("SEED 1", y.decade(1, 1), 0);
    lost(y, 0, 0, 1, 0, 0, 0);
    DUE.is("STAKE 11", y.drawn(0, 1) * 1000 + y.drawn(1, 1), 89111);
  }

  private static void lost(CradleDuel x, int... due) {
    for (int i = 0; i < due.length; i++) DUE.is("DUELS lost by " + i, x.drawn(i, 2), due[i]);
  }

  private static void versesByDraws() {
    DUE.says("IV: each VERSE by a DRAW of those not BARRED (none: a DRAW of the DUEL);");
    // the 4th s of SEED 0 is 953857: 1 is left of 3 and of 2
    for (int strong = 10; strong < 13; strong++) {
      CradleDuel x = six("tires 0;wakes 0;lulls 0;lulls 999 if hour = 0 and same = 0 and skill = 0 and strong = " + strong);
      DUE.is("of three: STRONG " + strong, x.decade(0, 1), strong == 11 ? 1 : 0);
      CradleDuel y = six("tires 0;wakes 0;lulls 0;lulls 999 if hour = 0 and same = 0 and skill = 0 and strong = " + strong + ";bars if strong = 11");
      DUE.is("of two: STRONG " + strong, y.decade(0, 1), strong == 12 ? 1 : 0);
      CradleDuel z = six("lulls 999;bars if not strong = " + strong);
      DUE.is("of one", z.decade(0, 1), 1);
    }
    CradleDuel x = six("lulls 999;bars;wakes 7");
    DUE.is("none: a DRAW", x.decade(0, 60), 0);
    lost(x, 0, 0, 0, 0, 0, 0);
    DUE.is("COWS stay", x.drawn(0, 1) * 1000 + x.drawn(1, 1), 100100);
    DUE.is("WAKE", x.drawn(0, 0), 100 + 60 * 7);
    CradleDuel y = six("lulls 1;tires 0;wakes 0;bars if skill > 2");
    DUE.is("none for the second one: a DRAW", y.decade(0, 1), 0);
    DUE.is("one VERSE was sung", y.drawn(5, 0), 99);
  }

  private static void wakeAboveNothing() {
    DUE.says("IV: they have a DUEL, if both have WAKE above 0");
    CradleDuel x = Due.two(5, 5);
    x.verse(50, 1);
    DUE.inForce(x, "lulls 999;wakes 0");
    DUE.is("one DUEL, then WAKE 0", x.decade(7, 60), 1);
    DUE.is("lost", x.drawn(1, 2), 1);
    DUE.is("WAKE", x.drawn(1, 0), 0);
    CradleDuel y = Due.two(0, 5);
    y.verse(50, 1);
    DUE.inForce(y, "lulls 999;wakes 0");
    DUE.is("WAKE 0 of the first", y.decade(7, 60), 0);
    DUE.is("lost", y.drawn(0, 2) + y.drawn(1, 2), 0);
    y.terms(2, 1);
    DUE.inForce(y, "lulls 999;wakes 1;tires 0");
    DUE.is("WAKE 1 behind the first DAY, each DAY one DUEL", y.decade(7, 10), 9);
    CradleDuel z = Due.two(900, 5);
    z.verse(50, 1);
    z.begin(0, 1, 1);
    z.sing(0);
    DUE.inForce(z, "lulls 999");
    DUE.is("ASLEEP: no DUEL on the first DAY", z.decade(7, 1), 0);
    DUE.is("then a DAWN", z.drawn(1, 0), 100);
    DUE.is("on the second there is", z.decade(7, 2), 1);
  }

  private static void lastDays() {
    DUE.says("IV: then a DAWN (beyond DAY 999: it ends there).");
    int[][] all = {{0, 60, 60}, {940, 60, 60}, {941, 60, 59}, {998, 60, 2}, {999, 60, 1}, {999, 1, 1}, {998, 1, 1}};
    for (int[] a : all) {
      CradleDuel x = Due.two(500, 500);
      x.verse(50, 1);
      x.terms(0, a[0]);
      DUE.inForce(x, "lulls 999;tires 0;wakes 5");
      DUE.is("DAY " + a[0] + ", " + a[1] + " DAYS", x.decade(9, a[1]), a[2]);
      DUE.is("DUELS lost", x.drawn(1, 2), a[2]);
      int dawns = Math.min(a[1], 999 - a[0]);
      DUE.is("WAKE by as many DAWNS", x.drawn(0, 0), 500 + 5 * dawns);
      DUE.is("WAKE of who sleeps each DAY", x.drawn(1, 0), dawns == a[2] ? 5 : 0);
      DUE.is("on paper", x.count(15), a[0]);
    }
  }

  private static void isAside() {
    DUE.says("IV: on paper (a DUEL as told is aside)");
    CradleDuel x = six(null);
    x.begin(0, 3, 9);
    x.sing(1);
    x.cows(0, 50);
    x.sing(0);
    // the first DECADE, so that drawn() answers in both looks
    int won = x.decade(11, 60);
    List<String> ahead = Due.look(x);
    DUE.is("again", x.decade(11, 60), won);
    DUE.same("decade", ahead, Due.look(x));
    DUE.is("the DUEL stays", x.duel(2), 9);
    DUE.is("it can be undone", x.undo(), 1);
  }

  private static void drawsOfManyDays() {
    DUE.says("37: A DECADE, kept as the latest: how many DUELS were won by CLAN 0.", "38: DUELS lost by SINGER k in it (2).");
    for (int seed : new int[] {0, 1, 999999, 1000000, 123456, 77}) {
      CradleDuel x = six("tires 0;wakes 40;lulls 0;lulls 999 if skill % 2 = 0;bars if strong = 10");
      long s = seed;
      int[] wake = {100, 100, 100, 100, 100, 100};
      int[] lost = new int[6];
      int[] cows = {100, 100};
      int won = 0;
      for (int day = 0; day < 60; day++) {
        s = (s * 1103 + 12345) % 1000003;
        int first = (int) (s % 3);
        s = (s * 1103 + 12345) % 1000003;
        int second = 3 + (int) (s % 3);
        s = (s * 1103 + 12345) % 1000003;
        int stake = (int) (s % 20) + 1;
        if (wake[first] > 0 && wake[second] > 0) {
          // SKILL is the number: who is even wins by the first VERSE; two odd ones sing 24
          int verses = first % 2 == 0 ? 1 : second % 2 == 0 ? 2 : 24;
          for (int i = 0; i < verses; i++) s = (s * 1103 + 12345) % 1000003;
          int loser = verses == 1 ? second : verses == 2 ? first : -1;
          if (loser >= 0) {
            wake[loser] = 0;
            lost[loser]++;
            int winners = loser == second ? 0 : 1;
            won += 1 - winners;
            cows[winners] = Math.min(9999, cows[winners] + stake);
            cows[1 - winners] = Math.max(0, cows[1 - winners] - stake);
          }
        }
        for (int i = 0; i < 6; i++) wake[i] = Math.min(999, wake[i] + 40);
      }
      DUE.is("won, SEED " + seed, x.decade(seed, 60), won);
      for (int i = 0; i < 6; i++) {
        DUE.is("WAKE", x.drawn(i, 0), wake[i]);
        DUE.is("lost", x.drawn(i, 2), lost[i]);
      }
      DUE.is("COWS", x.drawn(0, 1), cows[0]);
      DUE.is("COWS", x.drawn(1, 1), cows[1]);
    }
  }

  private static void cowsAtTheEdges() {
    DUE.says("38: Behind the latest DECADE WAKE of SINGER k (what 0), COWS of CLAN k (1)");
    CradleDuel x = six("lulls 999;tires 0;wakes 50");
    x.cows(0, 9990);
    x.cows(1, 3);
    DUE.is("all are won", x.decade(0, 60), 60);
    DUE.is("9,999 at most", x.drawn(0, 1), 9999);
    DUE.is("none is left", x.drawn(1, 1), 0);
    DUE.is("on paper", x.count(13) * 10 + x.count(14), 99903);
    CradleDuel y = six("lulls 1;tires 0;wakes 999");
    y.decade(0, 60);
    DUE.is("999 at most", y.drawn(0, 0), 999);
  }

  private static void drawnOfNone() {
    DUE.says("38: NONE.");
    CradleDuel x = six(null);
    for (int k = -1; k < 7; k++) for (int what = -1; what < 4; what++) DUE.is("no DECADE yet", x.drawn(k, what), -1);
    x.decade(0, 0);
    DUE.is("REFUSED", x.drawn(0, 0), -1);
    x.decade(0, 1);
    DUE.range("SINGER", 0, 5, -1, k -> x.drawn(k, 0));
    DUE.range("CLAN", 0, 1, -1, k -> x.drawn(k, 1));
    DUE.range("SINGER", 0, 5, -1, k -> x.drawn(k, 2));
    DUE.range("what", 0, 2, -1, what -> x.drawn(0, what));
    DUE.is("status", x.status(), 0);
    x.singer(100, 1, 0);
    DUE.is("one who came later", x.drawn(6, 0), -1);
    DUE.is("one who came later", x.drawn(6, 2), -1);
    x.decade(0, 1);
    DUE.is("in the next one", Math.min(0, x.drawn(6, 0)), 0);
  }

  private static void theLatest() {
    DUE.says("37: kept as the latest");
    CradleDuel x = six("lulls 0;tires 0;wakes 3");
    x.decade(5, 10);
    DUE.is("10 DAYS", x.drawn(0, 0), 130);
    x.decade(5, 4);
    DUE.is("4 DAYS", x.drawn(0, 0), 112);
    x.decade(5, 61);
    DUE.is("REFUSED", x.drawn(0, 0), 112);
    x.dawn();
    x.cows(0, 7);
    x.force(-1);
    DUE.is("it stays", x.drawn(0, 0), 112);
    DUE.is("it stays", x.drawn(0, 1), 100);
    x.decade(5, 1);
    DUE.is("from what is now", x.drawn(0, 1) + x.drawn(1, 1) >= 7 ? 1 : 0, 1);
    CradleDuel y = six("lulls 999;wakes 0");
    y.decade(0, 60);
    int lost = y.drawn(3, 2) + y.drawn(4, 2) + y.drawn(5, 2);
    DUE.is("each of three once", lost, 3);
    y.decade(0, 1);
    DUE.is("lost in the latest alone", y.drawn(3, 2) + y.drawn(4, 2) + y.drawn(5, 2), 1);
  }

  public static void main(String[] args) {
    numbersOfADecade();
    cannotBe();
    drawsByHand();
    versesByDraws();
    wakeAboveNothing();
    lastDays();
    isAside();
    drawsOfManyDays();
    cowsAtTheEdges();
    drawnOfNone();
    theLatest();
    DUE.end("edges of promises 37 and 38");
  }
}
