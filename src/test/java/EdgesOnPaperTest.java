import java.util.List;

/** Terms III, as DUELS are thought of, and promises 27 to 31: the words that name an edge, each by itself. */
public final class EdgesOnPaperTest {
  private static final Due DUE = new Due();

  private static void game(CradleDuel x, int n, int when, int who, int verse) {
    DUE.is("game(" + n + ", 0)", x.game(n, 0), when);
    DUE.is("game(" + n + ", 1)", x.game(n, 1), who);
    DUE.is("game(" + n + ", 2)", x.game(n, 2), verse);
  }

  // each VERSE LULLS by 100 and none TIRES
  private static CradleDuel hundreds(int a, int b) {
    CradleDuel x = Due.duel(a, b);
    DUE.inForce(x, "lulls 100;tires 0");
    return x;
  }

  private static void noDuel() {
    DUE.says("27: NOTHING (no DUEL).", "27: A GAME of n VERSES 1 .. 4");
    CradleDuel x = Due.two(100, 80);
    x.verse(20, 1);
    for (int n = 0; n < 6; n++) for (int what = -1; what < 4; what++) DUE.is("no DUEL", x.game(n, what), -1000);
    CradleDuel y = hundreds(50, 50);
    DUE.range("n", 1, 4, -1000, n -> y.game(n, 0));
    DUE.range("n", 1, 4, -1000, n -> y.game(n, 1));
    DUE.range("n", 1, 4, -1000, n -> y.game(n, 2));
    DUE.range("what", 0, 2, -1000, what -> y.game(1, what));
    DUE.range("what", 0, 2, -1000, what -> y.game(4, what));
    DUE.is("status", y.status(), 0);
    y.part();
    DUE.is("over", y.game(1, 0), -1000);
  }

  private static void inWhichVerse() {
    DUE.says("III: in which VERSE 1 .. n somebody sleeps (0: nobody;", "27: in which somebody sleeps (what 0), who (1; NONE: nobody)");
    int[][] all = {{999, 100, 1, 1}, {100, 150, 2, 0}, {101, 101, 3, 1}, {200, 200, 3, 1}, {200, 250, 4, 0}, {101, 201, 4, 0}, {201, 201, 0, -1}, {999, 999, 0, -1}};
    for (int[] a : all) {
      CradleDuel x = hundreds(a[0], a[1]);
      for (int n = 1; n <= 4; n++) {
        boolean sleeps = a[2] > 0 && n >= a[2];
        game(x, n, sleeps ? a[2] : 0, sleeps ? a[3] : -1, 0);
      }
    }
  }

  private static void fromTheDuelAsItIs() {
    DUE.says("III: A GAME of n VERSES from the DUEL as it is: both know all;", "III: : who;");
    CradleDuel x = Due.duel(100, 100);
    Due.law(x, "lulls 10;tires 0");
    Due.law(x, "tires 0;lulls 0;lulls 999 if hour = 1");
    Due.law(x, "tires 0;lulls 0;lulls 999 if same = 1 and hour = 0");
    Due.law(x, "tires 0;lulls 0;lulls wake if wake = 90");
    x.force(0);
    x.sing(1);
    // the second one's turn in HOUR 0, behind KEY 2, WAKE 100 and 90
    x.force(1);
    game(x, 1, 0, -1, 0);
    game(x, 4, 2, 1, 0);
    x.force(2);
    game(x, 4, 1, 0, 1);
    x.force(3);
    game(x, 1, 0, -1, 0);
    game(x, 2, 2, 1, 0);
    x.force(0);
    x.sing(0);
    // the first one's in HOUR 1, behind KEY 1, WAKE 90 both
    x.force(1);
    game(x, 1, 1, 1, 0);
    x.force(3);
    game(x, 1, 1, 1, 0);
  }

  private static void duelEnds() {
    DUE.says("III: it is a DRAW, if the DUEL ends)");
    CradleDuel x = Due.duel(999, 999);
    Due.law(x, "lulls 0;tires 0");
    Due.law(x, "lulls 500");
    Due.law(x, "lulls 999");
    x.force(0);
    for (int i = 0; i < 21; i++) x.sing(0);
    // three VERSES are left
    x.force(1);
    for (int n = 1; n <= 4; n++) game(x, n, n < 3 ? 0 : 3, n < 3 ? -1 : 0, 0);
    x.force(0);
    x.sing(0);
    x.force(1);
    for (int n = 1; n <= 4; n++) game(x, n, 0, -1, 0);
    x.force(0);
    x.sing(0);
    DUE.is("HOUR 11, the last VERSE", x.duel(3) * 10 + x.duel(4), 111);
    x.force(1);
    for (int n = 1; n <= 4; n++) game(x, n, 0, -1, 0);
    x.force(2);
    for (int n = 1; n <= 4; n++) game(x, n, 1, 0, 0);
  }

  private static void soonerIsBetter() {
    DUE.says("III: each wants the other one to sleep, the sooner the better");
    CradleDuel x = Due.duel(999, 100);
    DUE.inForce(x, "tires 0;lulls 0;lulls 60 if skill = 3;lulls 100 if strong = 40 and skill = 3");
    // VERSE 0 twice sends to sleep in the 3rd VERSE, VERSE 1 in the first
    game(x, 1, 1, 1, 1);
    game(x, 4, 1, 1, 1);
    DUE.inForce(x, "tires 0;lulls 0;lulls 60 if skill = 3");
    game(x, 1, 0, -1, 0);
    game(x, 4, 3, 1, 0);
  }

  private static void laterIsBetter() {
    DUE.says("III: not to oneself, the later the better");
    CradleDuel x = Due.duel(100, 999);
    // in KEY 1 behind KEY 1 the other one LULLS by 100, else by 50
    DUE.inForce(x, "tires 0;lulls 0;lulls 50 if skill = 5;lulls 100 if skill = 5 and key = 1 and same = 1");
    game(x, 1, 0, -1, 0);
    game(x, 2, 0, -1, 1);
    game(x, 3, 0, -1, 1);
    game(x, 4, 4, 0, 1);
    DUE.inForce(x, "tires 0;lulls 0;lulls 100 if skill = 5");
    // it can't be put off: the lowest
    game(x, 2, 2, 0, 0);
    game(x, 4, 2, 0, 0);
  }

  private static void lowestFirst() {
    DUE.says("III: the first VERSE (the lowest).", "27: the first VERSE (2; NONE: none).");
    CradleDuel x = Due.two(500, 500);
    for (int i = 0; i < 10; i++) x.verse(20, i % 5);
    x.begin(0, 1, 1);
    DUE.inForce(x, "lulls 1;tires 0");
    game(x, 1, 0, -1, 0);
    game(x, 3, 0, -1, 0);
    DUE.inForce(x, "lulls 999");
    game(x, 4, 1, 1, 0);
    DUE.inForce(x, "lulls 999;bars if key < 4");
    game(x, 4, 1, 1, 4);
    DUE.inForce(x, "lulls 0;lulls 999 if key = 4 or key = 3");
    game(x, 4, 1, 1, 3);
    DUE.inForce(x, "lulls 1;tires 0;bars if key < 2");
    game(x, 2, 0, -1, 2);
  }

  private static void noneCanBeSung() {
    DUE.says("III: None can be sung: a DRAW.", "27: NONE: none)");
    CradleDuel none = Due.two(100, 80);
    none.begin(0, 1, 1);
    for (int n = 1; n <= 4; n++) game(none, n, 0, -1, -1);
    CradleDuel x = Due.duel(150, 150);
    DUE.inForce(x, "bars");
    for (int n = 1; n <= 4; n++) game(x, n, 0, -1, -1);
    DUE.inForce(x, "lulls 100;tires 0;bars if skill = 5");
    for (int n = 1; n <= 4; n++) game(x, n, 0, -1, 0);
    // behind KEY 2 the other one, who would win, has none that is not BARRED
    DUE.inForce(x, "tires 0;lulls 0;lulls 999 if skill = 5;bars if skill = 5 and (key = 1 and same = 0 or key = 2 and same = 1)");
    game(x, 1, 0, -1, 0);
    for (int n = 2; n <= 4; n++) game(x, n, 0, -1, 1);
  }

  private static void onPaper() {
    DUE.says("III: (On paper;");
    CradleDuel x = Due.duel(150, 100);
    x.piece(1, 1, 1);
    x.decade(7, 2);
    x.hears(0, 1, 1);
    List<String> ahead = Due.look(x);
    for (int what = 0; what < 3; what++) x.game(4, what);
    for (int what = 0; what < 4; what++) x.saddle(0, 1, what);
    x.rule(1, 0);
    for (int what = 0; what < 5; what++) x.champions(what);
    x.made(36, 0);
    x.fits(4, 3);
    x.catching(1, 1);
    x.keep(1, 0, 1);
    DUE.same("all that is on paper", ahead, Due.look(x));
    DUE.is("sing", x.sing(1), 60);
  }

  private static void saddle(CradleDuel x, int first, int second, int... due) {
    for (int what = 0; what < 4; what++) DUE.is("saddle(" + first + ", " + second + ", " + what + ")", x.saddle(first, second, what), due[what]);
  }

  private static CradleDuel twoVerses(int a, int b) {
    CradleDuel x = Due.two(a, b);
    x.verse(20, 1);
    x.verse(40, 2);
    return x;
  }

  private static void noSaddle() {
    DUE.says("28: NOTHING (no VERSES; of one CLAN).");
    CradleDuel none = Due.two(100, 80);
    for (int what = -1; what < 5; what++) DUE.is("no VERSES", none.saddle(0, 1, what), -1000);
    CradleDuel x = twoVerses(999, 1);
    x.singer(100, 0, 0);
    x.singer(100, 0, 1);
    for (int what = 0; what < 4; what++) {
      DUE.is("of CLAN 0", x.saddle(0, 2, what), -1000);
      DUE.is("of CLAN 1", x.saddle(3, 1, what), -1000);
      DUE.is("oneself", x.saddle(1, 1, what), -1000);
    }
    DUE.is("first -1", x.saddle(-1, 1, 0), -1000);
    DUE.is("second -1", x.saddle(0, -1, 0), -1000);
    DUE.is("first 4", x.saddle(4, 1, 0), -1000);
    DUE.is("second 4", x.saddle(0, 4, 0), -1000);
    DUE.far("first", -1000, first -> x.saddle(first, 1, 0));
    DUE.far("second", -1000, second -> x.saddle(0, second, 0));
    DUE.range("what", 0, 3, -1000, what -> x.saddle(0, 1, what));
    DUE.is("status", x.status(), 0);
  }

  private static void bestOfTheWorst() {
    DUE.says("III: the best of the worst for the first, the worst of the best by the second one, the lowest VERSES for them.",
        "28: SADDLE of two SINGERS: the best of the worst (what 0), the worst of the best (1), the first one's VERSE (2), the second one's (3).");
    CradleDuel x = twoVerses(100, 80);
    x.image(0);
    // the second one wins by another KEY, the first one by the same
    DUE.inForce(x, "lulls 0;tires 0;lulls 999 if skill = 5 and same = 0;lulls 999 if skill = 3 and same = 1");
    saddle(x, 0, 1, -1, 1, 0, 0);
    DUE.inForce(x, "lulls 0;lulls 999 if skill = 3 and strong = 40");
    saddle(x, 0, 1, 1, 1, 1, 0);
    DUE.inForce(x, "lulls 0;lulls 999 if skill = 5 and strong = 40");
    saddle(x, 0, 1, -1, -1, 0, 1);
    DUE.inForce(x, "lulls 0");
    saddle(x, 0, 1, 0, 0, 0, 0);
    x.back(0);
    // the second one wins behind VERSE 0, neither behind VERSE 1
    DUE.inForce(x, "lulls 0;lulls 999 if skill = 5 and (key = 1 and same = 1 or key = 2 and same = 0)");
    saddle(x, 0, 1, 0, 0, 1, 0);
    // the first one wins with VERSE 1 unless the second one has VERSE 1, too
    DUE.inForce(x, "lulls 0;tires 0;lulls 999 if skill = 3 and hour = 1 and key = 2 and same = 0");
    saddle(x, 0, 1, 0, 0, 0, 1);
  }

  private static void saddleOfMany() {
    DUE.says("III: the lowest VERSES for them.");
    for (int best = 0; best < 10; best++) {
      CradleDuel x = Due.two(100, 80);
      for (int i = 0; i < 10; i++) x.verse(10 + i, i % 5);
      DUE.inForce(x, "lulls 0;lulls 999 if skill = 3 and strong > 9 + " + best);
      saddle(x, 0, 1, 1, 1, best, 0);
      DUE.inForce(x, "lulls 0;lulls 999 if skill = 5 and strong > 9 + " + best);
      saddle(x, 0, 1, -1, -1, 0, best);
      DUE.inForce(x, "lulls 0;lulls 999 if skill = 5 and strong = 10 + " + best + ";bars if skill = 3 and strong = 10 + " + best);
      // the first one's best is BARRED: a DRAW, whatever the second one sings
      saddle(x, 0, 1, 0, 0, best, 0);
    }
  }

  private static void firstHourNone() {
    DUE.says("III: SADDLE: both choose one VERSE for all the DUEL (first HOUR 0, told SINGERS): the first one's RESULT: 1, 0, -1 (DRAW 0);");
    CradleDuel x = Due.duel(999, 999);
    Due.law(x, "lulls 0;tires 0");
    Due.law(x, "lulls 0;lulls 999 if hour = 0 and skill = 3 and same = 0");
    Due.law(x, "lulls 0;lulls 999 if hour = 11 and skill = 5");
    Due.law(x, "lulls 84;tires 0");
    Due.law(x, "lulls 83;tires 0");
    x.force(0);
    for (int i = 0; i < 9; i++) x.sing(0);
    x.force(1);
    DUE.is("HOUR 4, KEY 1, the second one's turn", x.duel(3) * 100 + x.duel(5) * 10 + x.duel(4), 411);
    saddle(x, 0, 1, 1, 1, 0, 0);
    // SINGER 0 is the second one then, and wins by another KEY
    saddle(x, 1, 0, -1, 0, 0, 0);
    x.force(2);
    saddle(x, 0, 1, -1, -1, 0, 0);
    saddle(x, 1, 0, 1, 1, 0, 0);
    x.force(3);
    // 12 times 84 is more than 999, 12 times 83 is not
    saddle(x, 0, 1, 1, 1, 0, 0);
    x.force(4);
    saddle(x, 0, 1, 0, 0, 0, 0);
  }

  private static void barredChoice() {
    DUE.says("III: both choose one VERSE for all the DUEL", "III: None can be sung: a DRAW.");
    CradleDuel x = twoVerses(100, 80);
    DUE.inForce(x, "lulls 0;lulls 999 if skill = 5;bars if skill = 3 and strong = 40");
    // the first one's VERSE 1 is BARRED: a DRAW, which is better than to lose
    saddle(x, 0, 1, 0, 0, 1, 0);
    DUE.inForce(x, "tires 0;lulls 0;lulls 999 if skill = 3 and hour = 1;bars if skill = 5 and strong = 40");
    // a DRAW by VERSE 1, which is better for the second one
    saddle(x, 0, 1, 0, 0, 0, 1);
    DUE.inForce(x, "bars;lulls 999");
    saddle(x, 0, 1, 0, 0, 0, 0);
    DUE.inForce(x, "bars if hour = 11;lulls 0");
    saddle(x, 0, 1, 0, 0, 0, 0);
  }

  private static void sleepsAtOnce() {
    DUE.says("III: SINGERS who are ASLEEP, too, as their WAKE is; WAKE 0: sleeps at once.)");
    CradleDuel x = twoVerses(100, 0);
    x.singer(0, 0, 0);
    x.singer(1, 0, 1);
    DUE.is("the second", x.rule(0, 1), 1);
    DUE.is("the first", x.rule(1, 0), -1);
    DUE.is("both", x.rule(2, 1), 0);
    DUE.is("WAKE 1 against 0", x.rule(3, 2), 1);
    saddle(x, 0, 1, 1, 1, 0, 0);
    saddle(x, 1, 0, -1, -1, 0, 0);
    saddle(x, 2, 1, 0, 0, 0, 0);
    DUE.inForce(x, "bars");
    DUE.is("though all is BARRED", x.rule(0, 1), 1);
    saddle(x, 1, 0, -1, -1, 0, 0);
    x.force(-1);
    DUE.is("ASLEEP", asleep().rule(0, 1), 1);
    DUE.is("ASLEEP", asleep().rule(1, 0), -1);
    DUE.is("ASLEEP", asleep().rule(2, 1), 1);
    saddle(asleep(), 0, 1, 1, 1, 0, 0);
    DUE.is("against one ASLEEP", asleep().champions(0), 1);
    DUE.is("the first", asleep().champions(2), 1);
    CradleDuel none = Due.two(100, 0);
    DUE.is("without VERSES", none.rule(0, 1), 1);
  }

  // SINGER 1 is ASLEEP
  private static CradleDuel asleep() {
    CradleDuel x = twoVerses(100, 10);
    x.singer(5, 5, 0);
    x.begin(0, 1, 1);
    x.sing(0);
    return x;
  }

  private static void byTheRule() {
    DUE.says("III: By the RULE each sings what LULLS most, not BARRED (the lowest; none: a DRAW).", "29: By the RULE: the RESULT for the first (1, 0, -1).");
    CradleDuel x = twoVerses(100, 100);
    x.image(0);
    // the weaker VERSE LULLS most
    DUE.inForce(x, "tires 0;lulls 0;lulls 100 if strong = 20 and skill = 3");
    DUE.is("won", x.rule(0, 1), 1);
    DUE.is("lost", x.rule(1, 0), -1);
    DUE.inForce(x, "tires 50 - strong;lulls 0;lulls 100 if strong = 40 and skill = 3");
    DUE.is("not what TIRES most", x.rule(0, 1), 1);
    x.back(0);
    DUE.inForce(x, "tires 0;lulls 0;lulls 100 if strong = 20 and skill = 3;bars if strong = 20");
    DUE.is("what is BARRED is not sung", x.rule(0, 1), 0);
    DUE.inForce(x, "bars");
    DUE.is("none", x.rule(0, 1), 0);
    DUE.inForce(x, "tires 0;lulls 1;bars if hour = 1;lulls 100 if hour = 2");
    DUE.is("none in HOUR 1", x.rule(0, 1), 0);
    // both LULL alike: the lowest, in KEY 1, sends the second one's KEY 1 to win
    DUE.inForce(x, "tires 0;lulls 10;lulls 100 if skill = 5 and key = 1 and same = 1");
    DUE.is("the lowest", x.rule(0, 1), -1);
    DUE.inForce(x, "tires 0;lulls 10;lulls 100 if skill = 5 and key = 2 and same = 1");
    // 10 VERSES of 10 each, the first one's 10th comes first
    DUE.is("the lowest", x.rule(0, 1), 1);
    x.back(0);
    DUE.inForce(x, "tires 0;lulls 8");
    DUE.is("12 of 8 are not 100", x.rule(0, 1), 0);
    DUE.inForce(x, "tires 0;lulls 9");
    DUE.is("12 of 9 are", x.rule(0, 1), 1);
    DUE.inForce(x, "tires 0;lulls 0;lulls 1000 if hour = 11 and skill = 5");
    DUE.is("in the 24th VERSE", x.rule(0, 1), -1);
  }

  private static void noRule() {
    DUE.says("29: NOTHING (of one CLAN).");
    CradleDuel x = twoVerses(100, 80);
    x.singer(100, 0, 0);
    x.singer(100, 0, 1);
    DUE.is("of CLAN 0", x.rule(0, 2), -1000);
    DUE.is("of CLAN 1", x.rule(1, 3), -1000);
    DUE.is("oneself", x.rule(0, 0), -1000);
    DUE.is("first -1", x.rule(-1, 1), -1000);
    DUE.is("second 4", x.rule(0, 4), -1000);
    DUE.is("first 4", x.rule(4, 1), -1000);
    DUE.is("second -1", x.rule(0, -1), -1000);
    DUE.far("first", -1000, first -> x.rule(first, 1));
    DUE.far("second", -1000, second -> x.rule(0, second));
    DUE.is("without VERSES: a DRAW", Due.two(100, 80).rule(0, 1), 0);
    DUE.is("status", x.status(), 0);
  }

  private static void noChampions() {
    DUE.says("30: NONE (no such one of CLAN 0).");
    CradleDuel none = new CradleDuel();
    for (int what = -1; what < 11; what++) DUE.is("no SINGERS", none.champions(what), what == 0 || what == 1 ? 0 : -1);
    CradleDuel x = twoVerses(100, 80);
    DUE.is("SINGER 0", x.champions(2), 1);
    DUE.is("SINGER 1 is of CLAN 1", x.champions(3), -1);
    DUE.is("no SINGER 2", x.champions(4), -1);
    DUE.is("-1", x.champions(-1), -1);
    DUE.far("what", -1, what -> x.champions(what));
    CradleDuel ones = new CradleDuel();
    for (int i = 0; i < 8; i++) ones.singer(100, 1, 1);
    for (int what = -1; what < 11; what++) DUE.is("CLAN 1 alone", ones.champions(what), what == 0 || what == 1 ? 0 : -1);
  }

  private static void nobodyToSingAgainst() {
    DUE.says("30: against whom SINGER i of CLAN 0 sings (2 + i; 100: nobody).", "III: (none last).");
    CradleDuel x = new CradleDuel();
    for (int i = 0; i < 8; i++) x.singer(100, 1, 0);
    for (int i = 0; i < 8; i++) DUE.is("CLAN 0 alone", x.champions(2 + i), 100);
    DUE.is("won", x.champions(0), 0);
    DUE.is("lost", x.champions(1), 0);
    CradleDuel y = new CradleDuel();
    y.verse(20, 0);
    for (int i = 0; i < 3; i++) y.singer(10, 1, 0);
    y.singer(10, 1, 1);
    DUE.is("the first has the one", y.champions(2), 3);
    DUE.is("nobody is left", y.champions(3), 100);
    DUE.is("nobody is left", y.champions(4), 100);
    DUE.is("won", y.champions(0), 1);
    CradleDuel last = new CradleDuel();
    for (int i = 0; i < 7; i++) last.singer(100, 1, 1);
    last.singer(100, 1, 0);
    DUE.is("SINGER 7 against 0", last.champions(9), 0);
  }

  private static void mostAreWon() {
    DUE.says("III: CHAMPIONS: all SINGERS of CLAN 0 against those of CLAN 1, each in one DUEL at most, CLAN 0 begins, by the RULE:"
        + " by which most are won by CLAN 0, then fewest lost; the first as a row of SINGERS of CLAN 1 by those of CLAN 0",
        "30: CHAMPIONS: how many are won (what 0), lost (1)");
    CradleDuel x = new CradleDuel();
    x.verse(20, 0);
    int[][] all = {{1, 0}, {2, 0}, {3, 0}, {1, 1}, {2, 1}, {3, 1}};
    for (int[] a : all) x.singer(100, a[0], a[1]);
    x.image(0);
    // one wins against less SKILL alone: 2 against 1, 3 against 2
    champions(x, "tires 0;lulls 0;lulls 999 if skill > theirs", 2, 100, 3, 4);
    // against as much, too
    champions(x, "tires 0;lulls 0;lulls 999 if skill = theirs;lulls 999 if skill > theirs", 3, 3, 4, 5);
    // who begins wins
    champions(x, "lulls 999", 3, 3, 4, 5);
    // none is won or lost
    champions(x, "lulls 0", 0, 3, 4, 5);
    // all would be lost, so nobody sings
    champions(x, "tires 0;lulls 0;lulls 999 if same = 1", 0, 100, 100, 100);
    x.back(0);
    // 0 alone wins against 5, and 2 against 3 or 5
    champions(x, "lulls 0;lulls 999 if skill = 1 and theirs = 3;lulls 999 if skill = 3 and (theirs = 1 or theirs = 3) and hour = 0 and same = 0", 2, 5, 4, 3);
  }

  private static void champions(CradleDuel x, String law, int won, int... against) {
    DUE.inForce(x, law);
    DUE.is("won by " + law, x.champions(0), won);
    DUE.is("lost by " + law, x.champions(1), 0);
    for (int i = 0; i < 3; i++) DUE.is("champions(" + (2 + i) + ") by " + law, x.champions(2 + i), against[i]);
  }

  private static void howLong() {
    DUE.says("31: A VERSE MADE no LONGER than 1 .. 36: how STRONG (i NONE), the i-th PART.", "31: NONE (it can't be).");
    CradleDuel none = new CradleDuel();
    for (int i = -1; i < 4; i++) DUE.is("no PARTS", none.made(36, i), -1);
    CradleDuel x = new CradleDuel();
    for (int i = 0; i < 4; i++) x.piece(10, i, 9);
    int[] most = {-1, 10, 20, 30, 40};
    for (int length = 1; length <= 36; length++) {
      int many = length / 9;
      DUE.is("LONG " + length, x.made(length, -1), most[many]);
      for (int i = 0; i < 5; i++) DUE.is("PART " + i + " of LONG " + length, x.made(length, i), i < many ? i : -1);
    }
    DUE.is("too short behind what could be", x.made(8, 0), -1);
    DUE.is("too short behind what could be", x.made(8, -1), -1);
    for (int i = 3; i >= 0; i--) DUE.is("backwards", x.made(9 * i + 9, i), i);
    CradleDuel y = new CradleDuel();
    y.piece(10, 0, 1);
    DUE.range("LONG", 1, 36, -1, length -> y.made(length, -1));
    DUE.range("LONG", 1, 36, -1, length -> y.made(length, 0));
    DUE.is("i -2", x.made(36, -2), -1);
    DUE.far("i", -1, i -> x.made(36, i));
    DUE.is("a length that can't be", x.made(37, -1), -1);
    DUE.is("status", x.status(), 0);
  }

  private static void fourUnlikeParts() {
    DUE.says("III: A VERSE MADE of 1 .. 4 unlike PARTS, one behind the other, LONG together told at most");
    CradleDuel x = new CradleDuel();
    x.piece(10, 0, 1);
    DUE.is("one PART is sung once", x.made(36, -1), 10);
    DUE.is("no second", x.made(36, 1), -1);
    for (int i = 1; i < 10; i++) x.piece(10, i % 5, 1);
    // of ten only four: two pairs of one KEY
    DUE.is("4 at most", x.made(36, -1), 40 + 6);
    DUE.is("no 5th", x.made(36, 4), -1);
    DUE.is("three", x.made(3, -1), 30 + 3);
    DUE.is("two", x.made(2, -1), 20 + 3);
    DUE.is("LONG 4 is enough", x.made(4, -1), 46);
    DUE.is("the row", x.made(4, 0) * 1000 + x.made(4, 1) * 100 + x.made(4, 2) * 10 + x.made(4, 3), 516);
  }

  private static void neighbours() {
    DUE.says("III: STRONG together and 3 for each two neighbours of one KEY: the strongest;");
    CradleDuel x = new CradleDuel();
    for (int i = 0; i < 4; i++) x.piece(10, 4, 1);
    int[] due = {10, 23, 36, 49};
    for (int many = 1; many <= 4; many++) DUE.is(many + " of one KEY", x.made(many, -1), due[many - 1]);
    CradleDuel y = new CradleDuel();
    y.piece(10, 0, 1);
    y.piece(12, 1, 1);
    y.piece(10, 0, 1);
    // 23 by neighbours, 22 without
    DUE.is("3 are more than 2", y.made(2, -1), 23);
    DUE.is("0, 2", y.made(2, 0) * 10 + y.made(2, 1), 2);
    DUE.is("they stand side by side", y.made(3, -1), 35);
    DUE.is("0, 2, 1", y.made(3, 0) * 100 + y.made(3, 1) * 10 + y.made(3, 2), 21);
    CradleDuel z = new CradleDuel();
    z.piece(10, 0, 1);
    z.piece(13, 1, 1);
    z.piece(10, 0, 1);
    DUE.is("as strong: the first", z.made(2, -1), 23);
    DUE.is("0, 1", z.made(2, 0) * 10 + z.made(2, 1), 1);
    CradleDuel most = new CradleDuel();
    for (int i = 0; i < 10; i++) most.piece(99, 0, 9);
    DUE.is("the most of all", most.made(36, -1), 4 * 99 + 9);
  }

  private static void firstAsARow() {
    DUE.says("III: the first as a row of PARTS (a row that begins another one ahead of that).");
    CradleDuel x = new CradleDuel();
    x.piece(10, 0, 1);
    x.piece(5, 1, 2);
    x.piece(5, 2, 2);
    x.piece(10, 3, 4);
    DUE.is("0, 1, 2 and 0, 3", x.made(5, -1), 20);
    DUE.is("0, 1, 2 is the first", x.made(5, 0) * 100 + x.made(5, 1) * 10 + x.made(5, 2), 12);
    CradleDuel y = new CradleDuel();
    y.piece(10, 0, 1);
    y.piece(10, 1, 4);
    y.piece(5, 2, 2);
    y.piece(5, 3, 2);
    DUE.is("0, 1 and 0, 2, 3", y.made(5, -1), 20);
    DUE.is("0, 1 is the first", y.made(5, 0) * 10 + y.made(5, 1), 1);
    DUE.is("it has two", y.made(5, 2), -1);
    CradleDuel z = new CradleDuel();
    z.piece(5, 0, 9);
    z.piece(9, 1, 3);
    z.piece(9, 2, 3);
    DUE.is("the strongest is not the first PART", z.made(9, 0) * 10 + z.made(9, 1), 12);
    DUE.is("the first of two", z.made(3, 0), 1);
  }

  public static void main(String[] args) {
    noDuel();
    inWhichVerse();
    fromTheDuelAsItIs();
    duelEnds();
    soonerIsBetter();
    laterIsBetter();
    lowestFirst();
    noneCanBeSung();
    onPaper();
    noSaddle();
    bestOfTheWorst();
    saddleOfMany();
    firstHourNone();
    barredChoice();
    sleepsAtOnce();
    byTheRule();
    noRule();
    noChampions();
    nobodyToSingAgainst();
    mostAreWon();
    howLong();
    fourUnlikeParts();
    neighbours();
    firstAsARow();
    DUE.end("edges of promises 27 to 31");
  }
}
