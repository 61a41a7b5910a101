import java.util.List;

/** Terms III, as DUELS are sung, and promises 21 to 26: the words that name an edge, each by itself. */
public final class EdgesOfDuelsTest {
  private static final Due DUE = new Due();

  private static void noDuelAtFirst() {
    DUE.says("I: A DUEL, or none (at first)", "22: NONE.");
    CradleDuel none = Due.two(100, 80);
    for (int what = -1; what < 7; what++) DUE.is("duel(" + what + ")", none.duel(what), -1);
    CradleDuel x = Due.duel(100, 80);
    x.sing(0);
    DUE.range("what", 0, 5, -1, what -> x.duel(what));
    DUE.is("status", x.status(), 0);
  }

  private static void whatADuelIs() {
    DUE.says("22: Of the DUEL the first (what 0), the second SINGER (1), STAKE (2), HOUR (3), whose turn it is (4), the KEY sung last (5).",
        "I: an HOUR 0 .. 11, whose turn it is, the KEY sung last (NONE at first).", "21: A DUEL, the first one has the turn: 0.");
    CradleDuel x = Due.two(100, 80);
    x.verse(1, 0);
    x.verse(1, 4);
    DUE.is("begin", x.begin(1, 0, 42), 0);
    duel(x, 1, 0, 42, 0, 1, -1);
    x.sing(0);
    duel(x, 1, 0, 42, 0, 0, 0);
    x.sing(1);
    duel(x, 1, 0, 42, 1, 1, 4);
    x.part();
    duel(x, -1, -1, -1, -1, -1, -1);
    x.begin(0, 1, 7);
    duel(x, 0, 1, 7, 0, 0, -1);
    x.undo();
    duel(x, -1, -1, -1, -1, -1, -1);
  }

  private static void duel(CradleDuel x, int... due) {
    for (int what = 0; what < 6; what++) DUE.is("duel(" + what + ")", x.duel(what), due[what]);
  }

  private static void stakes() {
    DUE.says("I: a STAKE 1 .. 99", "21: -1;");
    DUE.range("STAKE", 1, 99, -1, stake -> Due.two(100, 80).begin(0, 1, stake));
    CradleDuel x = Due.two(100, 80);
    DUE.refused(x, "STAKE 0", x.begin(0, 1, 0), -1);
    DUE.refused(x, "STAKE 100", x.begin(0, 1, 100), -1);
    DUE.is("no DUEL", x.duel(0), -1);
    DUE.is("nothing to undo", x.count(5), 0);
    DUE.refused(x, "ahead of no such SINGER", x.begin(0, 2, 0), -1);
    DUE.refused(x, "ahead of one CLAN", x.begin(0, 0, 100), -1);
    x.begin(0, 1, 1);
    DUE.refused(x, "ahead of a DUEL that there is", x.begin(0, 1, 0), -1);
    DUE.is("count(7)", x.count(7), 5);
  }

  private static void noSuchSinger() {
    DUE.says("21: -2;", "I: -2 there is no such SINGER, VERSE, LAW, IMAGE;");
    CradleDuel x = Due.two(100, 80);
    DUE.refused(x, "first", x.begin(2, 1, 1), -2);
    DUE.refused(x, "second", x.begin(0, 2, 1), -2);
    DUE.refused(x, "first", x.begin(-1, 1, 1), -2);
    DUE.refused(x, "second", x.begin(0, -1, 1), -2);
    DUE.far("first", -2, first -> x.begin(first, 1, 1));
    DUE.far("second", -2, second -> x.begin(0, second, 1));
    DUE.refused(x, "both, alike", x.begin(5, 5, 1), -2);
    x.begin(0, 1, 1);
    DUE.refused(x, "ahead of a DUEL that there is", x.begin(0, 2, 1), -2);
    DUE.is("no SINGERS", new CradleDuel().begin(0, 0, 1), -2);
  }

  private static void cannotBegin() {
    DUE.says("21: -3 (there is one; of one CLAN; one is ASLEEP, has WAKE 0).", "I: two SINGERS of unlike CLANS", "I: -3 it can't be by what stands;");
    CradleDuel x = Due.two(100, 80);
    x.singer(1, 0, 0);
    x.singer(1, 0, 1);
    x.singer(0, 0, 0);
    x.singer(0, 0, 1);
    x.verse(1, 0);
    List<String> ahead = Due.look(x);
    DUE.refused(x, "of CLAN 0", x.begin(0, 2, 1), -3);
    DUE.refused(x, "of CLAN 1", x.begin(1, 3, 1), -3);
    DUE.refused(x, "oneself", x.begin(0, 0, 1), -3);
    DUE.refused(x, "the first has WAKE 0", x.begin(4, 1, 1), -3);
    DUE.refused(x, "the second has WAKE 0", x.begin(0, 5, 1), -3);
    DUE.refused(x, "both have", x.begin(4, 5, 1), -3);
    DUE.same("begin", ahead, Due.look(x));
    DUE.is("WAKE 1 is enough", x.begin(2, 3, 1), 0);
    DUE.refused(x, "there is one", x.begin(0, 1, 1), -3);
    DUE.is("it stays", x.duel(0) * 10 + x.duel(1), 23);
    x.sing(0);
    DUE.is("ASLEEP", x.of(3, 3), 1);
    DUE.refused(x, "the second is ASLEEP", x.begin(2, 3, 1), -3);
    DUE.refused(x, "the first is ASLEEP", x.begin(3, 2, 1), -3);
    DUE.is("others can", x.begin(0, 1, 1), 0);
    DUE.is("count(9)", x.count(9), 9);
  }

  private static void singsWhat() {
    DUE.says("23: To SING: WAKE of who heard it.", "23: -2;", "23: -3 (no DUEL, BARRED).");
    CradleDuel x = Due.two(100, 80);
    DUE.refused(x, "no VERSES", x.sing(0), -2);
    x.verse(20, 1);
    DUE.refused(x, "no DUEL", x.sing(0), -3);
    DUE.refused(x, "no such VERSE, no DUEL", x.sing(1), -2);
    x.begin(0, 1, 1);
    x.force(Due.law(x, "bars"));
    List<String> ahead = Due.look(x);
    DUE.refused(x, "no such VERSE, all BARRED", x.sing(1), -2);
    DUE.refused(x, "VERSE -1", x.sing(-1), -2);
    DUE.far("VERSE", -2, verse -> x.sing(verse));
    DUE.refused(x, "BARRED", x.sing(0), -3);
    DUE.same("sing", ahead, Due.look(x));
    x.force(-1);
    DUE.is("sing", x.sing(0), 60);
    DUE.is("status", x.status(), 0);
    DUE.is("the other one", x.sing(0), 95 - 40);
  }

  private static void askedAsAllIsAhead() {
    DUE.says("III: it LULLS (asked as all is ahead)");
    CradleDuel x = Due.duel(100, 80);
    x.force(Due.law(x, "lulls wake / 2 + same * 30 + hour;tires wake"));
    DUE.is("of 80", x.sing(0), 40);
    DUE.is("80, not 40", x.of(0, 0), 20);
    DUE.is("of 20, SAME", x.sing(0), 0);
    CradleDuel y = Due.duel(100, 80);
    y.force(Due.law(y, "lulls 1 + hour * 10"));
    y.sing(0);
    DUE.is("HOUR 0 still", y.sing(0), 100 - 5 - 1);
    DUE.is("HOUR 1", y.sing(0), 80 - 1 - 5 - 11);
  }

  private static void lessByThat() {
    DUE.says("III: WAKE of who hears is less by that (0 at least);");
    int[][] all = {{79, 1}, {80, 0}, {81, 0}, {999, 0}, {0, 80}, {1, 79}};
    for (int[] a : all) {
      CradleDuel x = Due.duel(100, 80);
      x.force(Due.law(x, "lulls " + a[0]));
      DUE.is("80 less by " + a[0], x.sing(0), a[1]);
      DUE.is("WAKE", x.of(1, 0), a[1]);
      DUE.is("ASLEEP", x.of(1, 3), a[1] == 0 ? 1 : 0);
      DUE.is("the DUEL goes on", x.duel(0), a[1] == 0 ? -1 : 0);
    }
  }

  private static void yawns() {
    DUE.says("III: a YAWN more, if it LULLS by YAWN or more;");
    int[][] all = {{1, 0, 0}, {1, 1, 1}, {30, 29, 0}, {30, 30, 1}, {30, 31, 1}, {999, 998, 0}, {999, 999, 1}};
    for (int[] a : all) {
      CradleDuel x = Due.duel(999, 5);
      x.terms(1, a[0]);
      x.force(Due.law(x, "lulls " + a[1]));
      x.sing(0);
      DUE.is("YAWN " + a[0] + ", LULLS by " + a[1], x.of(1, 4), a[2]);
      DUE.is("not who sings", x.of(0, 4), 0);
    }
    CradleDuel y = Due.duel(999, 999);
    y.force(Due.law(y, "lulls 30;tires 0"));
    for (int i = 0; i < 24; i++) y.sing(0);
    DUE.is("12 each", y.of(0, 4) * 100 + y.of(1, 4), 1212);
    y.begin(0, 1, 1);
    y.sing(0);
    DUE.is("one more in the next DUEL", y.of(1, 4), 13);
    y.part();
    y.dawn();
    DUE.is("they stay by day", y.of(1, 4), 13);
  }

  private static void oneAtLeast() {
    DUE.says("III: WAKE of who sings is less by what it TIRES (1 at least).");
    int[][] all = {{1, 99, 1}, {1, 0, 1}, {2, 1, 1}, {50, 49, 1}, {50, 50, 1}, {50, 51, 1}, {51, 49, 2}, {100, 99, 1}, {101, 99, 2}, {999, 0, 999}};
    for (int[] a : all) {
      CradleDuel x = Due.duel(a[0], 900);
      x.force(Due.law(x, "lulls 1;tires " + a[1]));
      x.sing(0);
      DUE.is(a[0] + " less by " + a[1], x.of(0, 0), a[2]);
      DUE.is("nobody is ASLEEP", x.of(0, 3) + x.of(1, 3), 0);
      DUE.is("the DUEL goes on", x.duel(4), 1);
    }
    CradleDuel y = Due.duel(1, 1);
    y.force(Due.law(y, "tires 99"));
    DUE.is("who wins is tired, too", y.sing(0), 0);
    DUE.is("1 at least", y.of(0, 0), 1);
    DUE.is("not ASLEEP", y.of(0, 3), 0);
  }

  private static void cowsOfWhoWins() {
    DUE.says("III: If WAKE of who hears is 0, that one is ASLEEP, the DUEL is over, the CLAN of who sang has the STAKE in COWS more (9,999 at most),"
        + " the other one less (as far as it has any).");
    int[][] all = {
      {100, 100, 1, 101, 99}, {100, 100, 99, 199, 1}, {9900, 99, 99, 9999, 0}, {9901, 98, 99, 9999, 0}, {9899, 100, 99, 9998, 1}, {9999, 9999, 50, 9999, 9949},
      {0, 0, 99, 99, 0}, {0, 9999, 1, 1, 9998}, {5, 1, 2, 7, 0}};
    for (int[] a : all) {
      for (int clan = 0; clan < 2; clan++) {
        CradleDuel x = Due.two(10, 10);
        x.verse(20, 1);
        x.cows(clan, a[0]);
        x.cows(1 - clan, a[1]);
        x.begin(clan, 1 - clan, a[2]);
        DUE.is("sing", x.sing(0), 0);
        DUE.is("ASLEEP", x.of(1 - clan, 3), 1);
        DUE.is("not who sang", x.of(clan, 3), 0);
        DUE.is("over", x.duel(0), -1);
        DUE.is("COWS of who sang", x.count(13 + clan), a[3]);
        DUE.is("COWS of the other one", x.count(14 - clan), a[4]);
        DUE.refused(x, "it is over", x.sing(0), -3);
        DUE.refused(x, "it is over", x.part(), -3);
      }
    }
    CradleDuel y = Due.duel(10, 90);
    y.sing(0);
    y.sing(1);
    DUE.is("the second one wins", y.of(0, 3), 1);
    DUE.is("COWS", y.count(13) * 1000 + y.count(14), 91109);
  }

  private static void turnsAndHours() {
    DUE.says("III: Else the other one has the turn; when it is the first one's again, it is the next HOUR; behind HOUR 11 the DUEL is a DRAW: over.");
    CradleDuel x = Due.two(999, 999);
    x.verse(1, 0);
    x.verse(1, 1);
    x.begin(1, 0, 9);
    x.force(Due.law(x, "lulls 1;tires 0"));
    for (int i = 0; i < 24; i++) {
      DUE.is("turn", x.duel(4), 1 - i % 2);
      DUE.is("HOUR", x.duel(3), i / 2);
      DUE.is("sing", x.sing(0), 999 - i / 2 - 1);
    }
    DUE.is("over", x.duel(0), -1);
    DUE.is("status", x.status(), 0);
    DUE.is("nobody is ASLEEP", x.of(0, 3) + x.of(1, 3), 0);
    DUE.is("COWS stay", x.count(13) * 1000 + x.count(14), 100100);
    DUE.is("WAKE stays as it was sung", x.of(0, 0) + x.of(1, 0), 2 * 987);
    DUE.refused(x, "a 25th", x.sing(0), -3);
    DUE.refused(x, "part", x.part(), -3);
    DUE.is("the next one", x.begin(0, 1, 9), 0);
    DUE.is("from HOUR 0", x.duel(3), 0);
    DUE.is("no KEY", x.duel(5), -1);
  }

  private static void lastVerseWins() {
    DUE.says("III: behind HOUR 11 the DUEL is a DRAW: over.");
    for (int last = 23; last <= 24; last++) {
      CradleDuel x = Due.duel(999, 999);
      x.force(Due.law(x, "lulls 0;tires 0;lulls 999 if hour = 11 and skill = " + (last == 23 ? 3 : 5)));
      for (int i = 1; i < last; i++) x.sing(0);
      DUE.is("HOUR", x.duel(3), 11);
      DUE.is("VERSE " + last, x.sing(0), 0);
      DUE.is("no DRAW: one is ASLEEP", x.of(last == 23 ? 1 : 0, 3), 1);
      DUE.is("COWS", x.count(13), last == 23 ? 109 : 91);
    }
  }

  private static void partings() {
    DUE.says("III: To PART: the DUEL is over, a DRAW.", "24: To PART: the STAKE.", "24: -3 no DUEL.");
    CradleDuel x = Due.two(100, 80);
    List<String> ahead = Due.look(x);
    DUE.refused(x, "no DUEL", x.part(), -3);
    DUE.same("part", ahead, Due.look(x));
    for (int stake = 1; stake < 100; stake += 49) {
      x.begin(0, 1, stake);
      DUE.is("STAKE", x.part(), stake);
      DUE.is("status", x.status(), 0);
      DUE.refused(x, "it is over", x.part(), -3);
    }
    DUE.is("COWS", x.count(13) * 1000 + x.count(14), 100100);
    DUE.is("nobody is ASLEEP", x.of(0, 3) + x.of(1, 3), 0);
    DUE.is("count(9)", x.count(9), 4);
  }

  private static void dawnInADuel() {
    DUE.says("III: A DAWN (not in a DUEL)", "25: -3.");
    CradleDuel x = Due.duel(100, 80);
    List<String> ahead = Due.look(x);
    DUE.refused(x, "in a DUEL", x.dawn(), -3);
    DUE.same("dawn", ahead, Due.look(x));
    x.part();
    DUE.is("behind it", x.dawn(), 0);
  }

  private static void lastDay() {
    DUE.says("III: the next DAY (behind 999 it can't be);");
    CradleDuel x = Due.two(100, 80);
    x.terms(0, 997);
    DUE.is("DAY 998", x.dawn(), 0);
    DUE.is("DAY 999", x.dawn(), 0);
    DUE.is("DAY", x.count(15), 999);
    List<String> ahead = Due.look(x);
    DUE.refused(x, "behind 999", x.dawn(), -3);
    DUE.same("dawn", ahead, Due.look(x));
    DUE.is("undo", x.undo(), 3);
    DUE.is("DAY 999 again", x.dawn(), 0);
    CradleDuel y = new CradleDuel();
    DUE.is("hills without singers", y.dawn(), 0);
    DUE.is("DAY", y.count(15), 1);
  }

  private static void wakesMore() {
    DUE.says("III: each SINGER's WAKE is more by what one WAKES (999 at most);");
    int[] wakes = {0, 1, 898, 899, 900, 998, 999, 500};
    CradleDuel x = new CradleDuel();
    for (int i = 0; i < 8; i++) x.singer(wakes[i], i, i % 2);
    x.dawn();
    for (int i = 0; i < 8; i++) DUE.is("WAKE", x.of(i, 0), Math.min(999, wakes[i] + 100));
    x.undo();
    x.force(Due.law(x, "wakes 0"));
    x.dawn();
    for (int i = 0; i < 8; i++) DUE.is("by 0", x.of(i, 0), wakes[i]);
    x.undo();
    x.force(Due.law(x, "wakes 1000"));
    x.dawn();
    for (int i = 0; i < 8; i++) DUE.is("by 999", x.of(i, 0), 999);
    x.undo();
    x.force(Due.law(x, "wakes wake + skill"));
    x.dawn();
    for (int i = 0; i < 8; i++) DUE.is("each by one's own", x.of(i, 0), Math.min(999, 2 * wakes[i] + i));
  }

  private static void nobodyAsleep() {
    DUE.says("III: nobody is ASLEEP.", "25: A DAWN: how many were ASLEEP.");
    for (int many = 0; many <= 4; many++) {
      CradleDuel x = new CradleDuel();
      for (int i = 0; i < 8; i++) x.singer(10, i, i % 2);
      x.verse(20, 0);
      for (int i = 0; i < many; i++) {
        x.begin(2 * i, 2 * i + 1, 1);
        x.sing(0);
      }
      DUE.is("how many were", x.dawn(), many);
      int asleep = 0;
      for (int i = 0; i < 8; i++) asleep += x.of(i, 3);
      DUE.is("nobody is", asleep, 0);
      DUE.is("none the next time", x.dawn(), 0);
      DUE.is("undo", x.undo(), 3);
      DUE.is("undo", x.undo(), 3);
      for (int i = 0; i < 8; i++) asleep += x.of(i, 3);
      DUE.is("they are again", asleep, many);
      DUE.is("how many were", x.dawn(), many);
    }
    CradleDuel y = Due.two(900, 5);
    y.verse(20, 0);
    y.force(Due.law(y, "wakes 0"));
    y.begin(0, 1, 1);
    y.sing(0);
    DUE.is("WAKE 0", y.dawn(), 1);
    DUE.is("not ASLEEP, though WAKE is 0", y.of(1, 3) + y.of(1, 0), 0);
    DUE.is("WAKE 0 alone is not ASLEEP", y.dawn(), 0);
  }

  private static void whatIsUndone() {
    DUE.says("26: The latest begin(), sing(), part(), dawn()", "26: is undone: 0 .. 3.");
    CradleDuel x = Due.two(100, 80);
    x.verse(20, 1);
    List<String> first = Due.look(x);
    x.dawn();
    x.begin(0, 1, 9);
    x.sing(0);
    x.part();
    DUE.is("part", x.undo(), 2);
    DUE.is("the DUEL is there", x.duel(4), 1);
    DUE.is("sing", x.undo(), 1);
    DUE.is("the first one's turn", x.duel(4), 0);
    DUE.is("begin", x.undo(), 0);
    DUE.is("no DUEL", x.duel(4), -1);
    DUE.is("dawn", x.undo(), 3);
    DUE.same("four undone", first, Due.look(x));
    DUE.refused(x, "there is none", x.undo(), -3);
  }

  private static void noneToUndo() {
    DUE.says("26: -3 there is none");
    CradleDuel x = Due.two(100, 80);
    List<String> ahead = Due.look(x);
    DUE.refused(x, "none", x.undo(), -3);
    x.begin(0, 0, 1);
    x.sing(0);
    x.part();
    x.begin(0, 1, 0);
    DUE.refused(x, "REFUSED ones are none", x.undo(), -3);
    DUE.same("undo", ahead, Due.look(x));
    x.dawn();
    x.undo();
    DUE.refused(x, "what was undone is none", x.undo(), -3);
  }

  private static void sixteenAreKept() {
    DUE.says("26: 16 are kept");
    for (int many = 14; many <= 40; many++) {
      CradleDuel x = Due.two(100, 80);
      for (int i = 1; i <= many; i++) {
        x.dawn();
        DUE.is("count(5)", x.count(5), Math.min(16, i));
      }
      for (int i = 1; i <= Math.min(16, many); i++) {
        DUE.is("undo", x.undo(), 3);
        DUE.is("DAY", x.count(15), many - i);
        DUE.is("count(5)", x.count(5), Math.min(16, many) - i);
      }
      DUE.refused(x, "no more", x.undo(), -3);
      DUE.is("DAY", x.count(15), Math.max(0, many - 16));
      x.dawn();
      DUE.is("the next one", x.count(5), 1);
    }
  }

  private static void undoneAndDoneAnew() {
    DUE.says("26: (by ORDERS, too; 16 are kept)");
    CradleDuel x = Due.two(100, 80);
    DUE.is("20 by ORDERS", Due.orders(x, "dawn times 20"), 20);
    DUE.is("16 are kept", x.count(5), 16);
    for (int i = 0; i < 5; i++) x.undo();
    DUE.is("DAY", x.count(15), 15);
    DUE.is("11 are left", x.count(5), 11);
    DUE.is("more ORDERS", Due.orders(x, "begin 0 with 1 for 2;part;dawn times 2"), 4);
    DUE.is("15", x.count(5), 15);
    x.dawn();
    x.dawn();
    DUE.is("16", x.count(5), 16);
    int[] due = {3, 3, 3, 3, 2, 0, 3, 3, 3, 3, 3, 3, 3, 3, 3, 3};
    for (int i = 0; i < 16; i++) DUE.is("undo " + i, x.undo(), due[i]);
    DUE.refused(x, "no more", x.undo(), -3);
    DUE.is("DAY", x.count(15), 5);
    Due.orders(x, "dawn times 3;part");
    DUE.refused(x, "ORDERS that can't be leave none", x.undo(), -3);
  }

  private static void undoneEnds() {
    DUE.says("26: is undone");
    CradleDuel x = Due.two(40, 30);
    x.verse(30, 3);
    x.cows(1, 4);
    x.begin(0, 1, 9);
    List<String> ahead = Due.look(x);
    x.sing(0);
    DUE.is("ASLEEP", x.of(1, 3), 1);
    DUE.is("undo", x.undo(), 1);
    DUE.same("a sleep undone", ahead, Due.look(x));
    CradleDuel y = Due.duel(999, 999);
    y.force(Due.law(y, "lulls 30"));
    for (int i = 0; i < 23; i++) y.sing(i % 2);
    List<String> last = Due.look(y);
    y.sing(1);
    DUE.is("a DRAW", y.duel(0), -1);
    y.begin(1, 0, 1);
    DUE.is("undo", y.undo() * 10 + y.undo(), 1);
    List<String> behind = Due.look(y);
    // one begin() more was kept in the place of the oldest
    last.set(5, "count(5) is 14");
    DUE.same("a DRAW undone", last, behind);
  }

  private static void whatEndsUndoing() {
    DUE.says("26: (nothing that was ahead of a singer(), cows(), terms() that was not REFUSED can be undone).");
    CradleDuel x = Due.two(100, 80);
    Due.OfOne[] ends = {v -> x.singer(v, 1, 1), v -> x.cows(1, v), v -> x.terms(2, v)};
    for (Due.OfOne call : ends) {
      x.dawn();
      DUE.is("REFUSED", call.of(10000), -1);
      DUE.is("it leaves all", x.count(5), 1);
      DUE.is("not REFUSED", Math.min(0, call.of(50)), 0);
      DUE.is("none is left", x.count(5), 0);
      DUE.refused(x, "undo", x.undo(), -3);
      x.dawn();
      DUE.is("what came behind can be", x.undo(), 3);
    }
    for (int i = 0; i < 5; i++) x.singer(1, 1, 1);
    x.dawn();
    DUE.is("no room: REFUSED", x.singer(1, 1, 1), -5);
    DUE.is("it can be undone", x.undo(), 3);
    x.dawn();
    x.cows(0, x.count(13));
    DUE.refused(x, "though the COWS are the same", x.undo(), -3);
    for (int term = 0; term < 4; term++) {
      x.dawn();
      x.terms(term, x.count(15 + term));
      DUE.refused(x, "though the TERM is the same", x.undo(), -3);
    }
  }

  private static void whatLeavesUndoing() {
    DUE.says("26: nothing that was ahead of a singer(), cows(), terms()");
    CradleDuel x = Due.duel(500, 400);
    x.sing(0);
    x.verse(5, 1);
    x.piece(5, 1, 1);
    x.hears(0, 1, 1);
    Due.put(x, "\1\1");
    x.row();
    x.force(Due.law(x, "lulls 7"));
    x.sight(0, 0, 0, 0, 0);
    x.forget();
    x.decade(1, 3);
    x.image(0);
    Due.orders(x, "part if 1 = 2");
    DUE.is("two still", x.count(5), 2);
    DUE.is("sing", x.undo(), 1);
    DUE.is("WAKE", x.of(1, 0), 400);
    DUE.is("VERSES stay", x.count(1), 4);
    DUE.is("the LAW stays", x.asks(0, 0), 7);
    DUE.is("HEARING stays", x.hears(0, 1, 1), 1);
    DUE.is("begin", x.undo(), 0);
  }

  public static void main(String[] args) {
    noDuelAtFirst();
    whatADuelIs();
    stakes();
    noSuchSinger();
    cannotBegin();
    singsWhat();
    askedAsAllIsAhead();
    lessByThat();
    yawns();
    oneAtLeast();
    cowsOfWhoWins();
    turnsAndHours();
    lastVerseWins();
    partings();
    dawnInADuel();
    lastDay();
    wakesMore();
    nobodyAsleep();
    whatIsUndone();
    noneToUndo();
    sixteenAreKept();
    undoneAndDoneAnew();
    undoneEnds();
    whatEndsUndoing();
    whatLeavesUndoing();
    DUE.end("edges of promises 21 to 26");
  }
}
