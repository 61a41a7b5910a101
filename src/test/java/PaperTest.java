/** Promises 27 to 31: GAMES, SADDLES, the RULE, CHAMPIONS, VERSES MADE of PARTS. */
public final class PaperTest {
  private static final Due DUE = new Due();

  private static void game(CradleDuel x, int n, int when, int who, int verse) {
    DUE.is("game " + n + " when", x.game(n, 0), when);
    DUE.is("game " + n + " who", x.game(n, 1), who);
    DUE.is("game " + n + " verse", x.game(n, 2), verse);
  }

  private static void games() {
    CradleDuel x = Due.two(100, 80);
    DUE.is("no DUEL", x.game(1, 0), -1000);
    x.begin(0, 1, 5);
    game(x, 4, 0, -1, -1);
    x.verse(10, 0);
    x.verse(30, 1);
    x.verse(50, 2);
    DUE.is("n 0", x.game(0, 0), -1000);
    DUE.is("n 5", x.game(5, 0), -1000);
    DUE.is("what 3", x.game(1, 3), -1000);
    DUE.is("what -1", x.game(1, -1), -1000);
    game(x, 1, 0, -1, 0);
    game(x, 2, 0, -1, 0);
    // 30 leaves 50, less what any VERSE tires, and 50 in HOUR 1 LULLS by 51; 10 leaves 70, which 30 sung brings to 63,
    // more than 30 again LULLS by, though SAME: 62
    game(x, 3, 3, 1, 1);
    DUE.is("on paper", x.of(1, 0), 80);
    DUE.is("on paper", x.count(5), 1);
    DUE.inForce(x, "bars if hour = 0");
    game(x, 4, 0, -1, -1);
    DUE.inForce(x, "bars if strong = 50;lulls 999 if skill = 5 and strong = 30 and wake > 0");
    game(x, 4, 2, 0, 0);
    DUE.inForce(x, "lulls 100 if skill = 5 and strong = 30;lulls 0 if skill = 5 and same = 1;lulls 0 if skill = 3");
    // in the KEY of 30 the other one has no strong VERSE left
    game(x, 2, 0, -1, 1);
  }

  private static void laterIsBetter() {
    CradleDuel x = Due.two(30, 500);
    x.verse(10, 0);
    x.verse(20, 1);
    DUE.inForce(x, "tires 0;lulls 15 if skill = 5;lulls 30 if skill = 5 and hour = 0 and wake > 0 and same = 1");
    x.begin(0, 1, 5);
    // singing the KEY that the other one has, one sleeps in the 2nd VERSE: both have both, so it can't be put off
    game(x, 4, 2, 0, 0);
    DUE.inForce(x, "tires 0;lulls 15 if skill = 5;lulls 30 if skill = 5 and hour = 0 and key = 0 and same = 1");
    // behind key 1 none is the same as key 0: two VERSES of 15 then
    game(x, 4, 4, 0, 1);
    game(x, 3, 0, -1, 1);
    x.sing(1);
    game(x, 3, 3, 0, 0);
  }

  private static void gameAtTheEnd() {
    CradleDuel x = Due.two(999, 999);
    x.verse(1, 0);
    x.verse(1, 1);
    x.begin(0, 1, 5);
    for (int i = 0; i < 22; i++) x.sing(i % 2);
    DUE.inForce(x, "lulls 500");
    DUE.is("HOUR", x.duel(3), 11);
    // the DUEL ends behind the 2nd VERSE
    game(x, 4, 0, -1, 0);
    x.force(-1);
    DUE.inForce(x, "lulls 999");
    game(x, 4, 1, 1, 0);
  }

  private static void saddle(CradleDuel x, int a, int b, int... due) {
    for (int i = 0; i < 4; i++) DUE.is("saddle(" + a + ", " + b + ", " + i + ")", x.saddle(a, b, i), due[i]);
  }

  private static void saddles() {
    CradleDuel x = Due.two(100, 80);
    x.singer(5, 5, 0);
    x.singer(0, 5, 1);
    x.singer(0, 5, 0);
    DUE.is("no VERSES", x.saddle(0, 1, 0), -1000);
    x.verse(10, 0);
    x.verse(30, 1);
    DUE.is("of one CLAN", x.saddle(0, 2, 0), -1000);
    DUE.is("oneself", x.saddle(0, 0, 0), -1000);
    DUE.is("no such", x.saddle(0, 5, 0), -1000);
    DUE.is("no such", x.saddle(-1, 0, 0), -1000);
    DUE.is("what 4", x.saddle(0, 1, 4), -1000);
    DUE.is("what -1", x.saddle(0, 1, -1), -1000);
    saddle(x, 0, 1, 1, 1, 1, 0);
    saddle(x, 2, 1, -1, -1, 0, 0);
    saddle(x, 0, 3, 1, 1, 0, 0);
    saddle(x, 3, 0, -1, -1, 0, 0);
    saddle(x, 4, 3, 0, 0, 0, 0);
    DUE.inForce(x, "bars if strong = 30 and skill = 3; lulls 0 if skill = 3");
    // VERSE 1 can't be sung by the first one: a DRAW, which is the best for that one
    saddle(x, 0, 1, 0, 0, 1, 0);
    DUE.inForce(x, "tires 0;lulls 0;lulls 999 if skill = 5 and same = 0");
    // each wants the other one's KEY, or not to have it
    saddle(x, 0, 1, -1, 0, 0, 0);
    DUE.inForce(x, "lulls 0");
    saddle(x, 0, 1, 0, 0, 0, 0);
    x.begin(0, 1, 5);
    saddle(x, 0, 1, 0, 0, 0, 0);
    DUE.is("on paper", x.duel(3), 0);
  }

  private static void rules() {
    CradleDuel x = Due.two(100, 80);
    x.singer(0, 0, 1);
    x.singer(0, 0, 0);
    DUE.is("no VERSES: a DRAW", x.rule(0, 1), 0);
    DUE.is("WAKE 0", x.rule(0, 2), 1);
    DUE.is("WAKE 0", x.rule(2, 0), -1);
    DUE.is("both at once", x.rule(2, 3), 0);
    DUE.is("of one CLAN", x.rule(0, 3), -1000);
    DUE.is("no such", x.rule(0, 4), -1000);
    DUE.is("no such", x.rule(-1, 0), -1000);
    x.verse(50, 0);
    x.verse(50, 1);
    // 50 (30 left), 100 by the same KEY
    DUE.is("the lowest, then by the same KEY", x.rule(0, 1), -1);
    DUE.is("the other way", x.rule(1, 0), -1);
    DUE.inForce(x, "bars if same = 1 and skill = 5");
    // 50 (30 left, 88), VERSE 1: 50 (38 left, 18), then the same KEY: 102
    DUE.is("not BARRED", x.rule(0, 1), 1);
    DUE.inForce(x, "bars if hour = 1;lulls 1");
    DUE.is("none: a DRAW", x.rule(0, 1), 0);
    DUE.inForce(x, "lulls 1;tires 0");
    DUE.is("12 HOURS: a DRAW", x.rule(0, 1), 0);
    x.force(-1);
    x.begin(0, 1, 9);
    x.sing(1);
    DUE.is("by WAKE as it is", x.rule(0, 1), 1);
    x.sing(1);
    DUE.is("asleep", x.of(0, 3), 1);
    DUE.is("ASLEEP, too", x.rule(0, 1), -1);
  }

  private static void barelyAwake() {
    CradleDuel x = Due.two(1, 1);
    x.singer(0, 0, 1);
    x.singer(0, 0, 0);
    x.verse(5, 0);
    DUE.is("who begins wins", x.rule(0, 1), 1);
    DUE.is("who begins wins", x.rule(1, 0), 1);
    saddle(x, 1, 0, 1, 1, 0, 0);
    DUE.is("WAKE 1 and 0", x.rule(0, 2), 1);
    DUE.is("WAKE 0 and 1", x.rule(2, 0), -1);
    saddle(x, 0, 2, 1, 1, 0, 0);
    saddle(x, 2, 0, -1, -1, 0, 0);
    DUE.inForce(x, "bars if skill = 3");
    DUE.is("none: a DRAW", x.rule(0, 1), 0);
    DUE.is("WAKE 0 is at once", x.rule(0, 2), 1);
    saddle(x, 0, 1, 0, 0, 0, 0);
    saddle(x, 0, 2, 1, 1, 0, 0);
  }

  // the 24th VERSE still counts, and the lowest of those that LULL alike is sung
  private static void lastVerse() {
    CradleDuel x = Due.two(100, 80);
    x.verse(5, 0);
    x.verse(5, 1);
    DUE.inForce(x, "lulls 0;tires 0;lulls 999 if hour = 11 and skill = 5");
    DUE.is("rule", x.rule(0, 1), -1);
    DUE.is("rule", x.rule(1, 0), 1);
    saddle(x, 0, 1, -1, -1, 0, 0);
    DUE.inForce(x, "lulls 50;tires 0;lulls 999 if hour = 0 and skill = 5 and same = 1 and key = 1");
    DUE.is("the lowest", x.rule(0, 1), 1);
  }

  // VERSES and SINGERS that are gone by back() are sung by nobody
  private static void behindBack() {
    CradleDuel x = Due.two(100, 80);
    x.verse(1, 0);
    DUE.inForce(x, "lulls strong");
    x.image(0);
    x.verse(99, 1);
    x.singer(1, 0, 0);
    x.singer(1, 0, 1);
    x.piece(9, 0, 1);
    DUE.is("rule", x.rule(0, 1), 1);
    DUE.is("made", x.made(36, -1), 9);
    x.back(0);
    DUE.is("rule", x.rule(0, 1), 0);
    saddle(x, 0, 1, 0, 0, 0, 0);
    DUE.is("won", x.champions(0), 0);
    DUE.is("against 1", x.champions(2), 1);
    DUE.is("no such", x.champions(4), -1);
    DUE.is("made", x.made(36, -1), -1);
    x.begin(0, 1, 1);
    game(x, 4, 0, -1, 0);
    // with all places taken, nothing behind the last one is looked at
    CradleDuel y = new CradleDuel();
    for (int i = 0; i < 4; i++) y.singer(500, i, 0);
    for (int i = 0; i < 4; i++) y.singer(500, i, 1);
    for (int i = 0; i < 10; i++) y.verse(1 + i, 0);
    DUE.inForce(y, "lulls 0");
    saddle(y, 0, 4, 0, 0, 0, 0);
    DUE.is("eight SINGERS, ten VERSES", y.champions(0), 0);
    for (int i = 0; i < 4; i++) DUE.is("in order", y.champions(2 + i), 4 + i);
    DUE.is("no such", y.champions(6), -1);
    DUE.is("won", y.decade(3, 60), 0);
  }

  private static void firstChampion() {
    CradleDuel x = Due.two(100, 80);
    x.verse(99, 1);
    x.singer(100, 1, 0);
    DUE.is("won", x.champions(0), 1);
    DUE.is("SINGER 0", x.champions(2), 1);
    DUE.is("no such", x.champions(3), -1);
    DUE.is("nobody is left", x.champions(4), 100);
    DUE.inForce(x, "bars if skill = 3");
    DUE.is("won", x.champions(0), 1);
    DUE.is("SINGER 0", x.champions(2), 100);
    DUE.is("SINGER 2", x.champions(4), 1);
  }

  private static void champions() {
    CradleDuel x = new CradleDuel();
    DUE.is("none", x.champions(0), 0);
    DUE.is("none", x.champions(1), 0);
    for (int i = 2; i < 10; i++) DUE.is("none", x.champions(i), -1);
    x.verse(30, 0);
    x.verse(30, 1);
    int[][] all = {{4, 1}, {2, 0}, {5, 0}, {1, 1}, {5, 0}, {6, 1}, {4, 1}};
    for (int[] s : all) x.singer(100, s[0], s[1]);
    // who has more SKILL wins
    DUE.inForce(x, "tires 0;lulls 0;lulls 999 if skill > theirs");
    champion(x, 3, 3, 0, 6);
    DUE.inForce(x, "tires 0;lulls 0;lulls 999 if skill > theirs + 2");
    // 1 has DRAWS and one that is lost, so 0 is the first
    champion(x, 1, 0, 3, 5);
    DUE.inForce(x, "tires 0;lulls 0;lulls 999 if skill + 3 < theirs");
    // 2 and 4 lose to 3 alone, which is nobody's then; 1 wins against 5
    champion(x, 1, 5, 0, 6);
    DUE.inForce(x, "lulls 0");
    champion(x, 0, 0, 3, 5);
    DUE.inForce(x, "lulls 0;lulls 999 if hour = 0 and skill < 10 and wake = 100;bars if hour = 0 and skill = 2");
    champion(x, 2, 0, 3, 5);
    DUE.inForce(x, "tires 0;lulls 0 if theirs = 4;lulls 0 if theirs = 1;lulls 0 if theirs = 6;lulls 999 if theirs = 2 or theirs = 5");
    champion(x, 0, 100, 100, 100);
    DUE.is("champions(-1)", x.champions(-1), -1);
    DUE.is("champions(10)", x.champions(10), -1);
    DUE.is("champions far away", x.champions(Integer.MIN_VALUE), -1);
  }

  // of SINGERS 1, 2, 4
  private static void champion(CradleDuel x, int won, int... against) {
    DUE.is("won", x.champions(0), won);
    DUE.is("lost", x.champions(1), 0);
    int[] due = {-1, against[0], against[1], -1, against[2], -1, -1, -1};
    for (int i = 0; i < 8; i++) DUE.is("champions(" + (2 + i) + ")", x.champions(2 + i), due[i]);
  }

  private static void making() {
    CradleDuel x = new CradleDuel();
    DUE.is("no PARTS", x.made(36, -1), -1);
    x.piece(10, 0, 5);
    DUE.is("too LONG", x.made(4, -1), -1);
    DUE.is("too LONG", x.made(4, 0), -1);
    DUE.is("one", x.made(5, -1), 10);
    DUE.is("one", x.made(5, 0), 0);
    x.piece(10, 0, 5);
    DUE.is("the first of two", x.made(9, 0), 0);
    DUE.is("neighbours", x.made(10, -1), 23);
    DUE.is("first", x.made(10, 0), 0);
    DUE.is("second", x.made(10, 1), 1);
    x.piece(2, 1, 1);
    x.piece(2, 1, 1);
    x.piece(1, 1, 1);
    DUE.is("4 at most", x.made(36, -1), 23 + 7);
    int[] due = {0, 1, 2, 3};
    for (int i = 0; i < 4; i++) DUE.is("row", x.made(36, i), due[i]);
    DUE.is("no 5th", x.made(36, 4), -1);
    DUE.is("i -2", x.made(36, -2), -1);
    DUE.is("length 0", x.made(0, -1), -1);
    DUE.is("length 37", x.made(37, -1), -1);
    DUE.is("short ones", x.made(3, -1), 2 + 2 + 1 + 6);
    DUE.is("LONG 1", x.made(1, -1), 2);
    DUE.is("LONG 1", x.made(1, 0), 2);
    CradleDuel y = new CradleDuel();
    y.piece(9, 0, 1);
    y.piece(9, 1, 1);
    y.piece(9, 0, 1);
    DUE.is("neighbours of one KEY by order", y.made(3, -1), 30);
    DUE.is("row", y.made(3, 0) * 100 + y.made(3, 1) * 10 + y.made(3, 2), 21);
    DUE.is("two", y.made(2, 0) * 10 + y.made(2, 1), 2);
  }

  public static void main(String[] args) {
    games();
    laterIsBetter();
    gameAtTheEnd();
    saddles();
    rules();
    barelyAwake();
    lastVerse();
    behindBack();
    firstChampion();
    champions();
    making();
    DUE.end("promises 27 to 31");
  }
}
