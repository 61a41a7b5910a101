/** Promises 21 to 26: DUELS verse by verse, DAWNS, and all undone. */
public final class DuelsTest {
  private static final Due DUE = new Due();

  private static void begins() {
    CradleDuel x = Due.two(100, 80);
    x.singer(50, 0, 0);
    x.singer(0, 0, 1);
    DUE.is("stake 0", x.begin(0, 1, 0), -1);
    DUE.is("stake 100", x.begin(0, 9, 100), -1);
    DUE.is("no such", x.begin(0, 4, 5), -2);
    DUE.is("no such", x.begin(-1, 1, 5), -2);
    DUE.is("of one CLAN", x.begin(0, 2, 5), -3);
    DUE.is("oneself", x.begin(0, 0, 5), -3);
    DUE.is("WAKE 0", x.begin(0, 3, 5), -3);
    DUE.is("WAKE 0", x.begin(3, 0, 5), -3);
    DUE.is("count(9)", x.count(9), 4);
    DUE.is("begin", x.begin(1, 0, 99), 0);
    int[] due = {1, 0, 99, 0, 1, -1};
    for (int i = 0; i < 6; i++) DUE.is("duel(" + i + ")", x.duel(i), due[i]);
    DUE.is("duel(6)", x.duel(6), -1);
    DUE.is("duel(-1)", x.duel(-1), -1);
    DUE.is("there is one", x.begin(0, 1, 1), -3);
    DUE.is("no such ahead of that", x.begin(0, 8, 1), -2);
    DUE.is("a DAWN in a DUEL", x.dawn(), -3);
    DUE.is("part", x.part(), 99);
    DUE.is("part", x.part(), -3);
    DUE.is("duel(2)", x.duel(2), -1);
  }

  private static void singing() {
    CradleDuel x = Due.two(100, 80);
    DUE.is("no such VERSE", x.sing(0), -2);
    x.verse(30, 2);
    x.verse(3, 1);
    DUE.is("no DUEL", x.sing(0), -3);
    DUE.is("no such VERSE ahead of that", x.sing(2), -2);
    DUE.is("no such VERSE", x.sing(-1), -2);
    x.begin(0, 1, 10);
    DUE.is("sing", x.sing(0), 50);
    DUE.is("status", x.status(), 0);
    DUE.is("tired", x.of(0, 0), 93);
    DUE.is("a YAWN by just YAWN", x.of(1, 4), 1);
    DUE.is("who sang has none", x.of(0, 4), 0);
    DUE.is("KEY", x.duel(5), 2);
    DUE.is("sing in the KEY behind", x.sing(0), 33);
    DUE.is("tired", x.of(1, 0), 43);
    DUE.is("HOUR", x.duel(3), 1);
    DUE.is("weak", x.sing(1), 39);
    DUE.is("no YAWN", x.of(1, 4), 1);
    DUE.is("tired by 0", x.of(0, 0), 33);
    DUE.is("the other one", x.sing(0), 2);
    DUE.is("YAWNS", x.of(0, 4), 2);
    DUE.is("YAWNS", x.of(1, 4), 1);
    DUE.is("tired", x.of(1, 0), 32);
    DUE.is("WAKE of who sings is 1 at least", x.sing(0), 0);
    DUE.is("WAKE", x.of(0, 0), 1);
    DUE.is("ASLEEP", x.of(1, 3), 1);
    DUE.is("COWS", x.count(13), 110);
    DUE.is("COWS", x.count(14), 90);
    DUE.is("over", x.duel(4), -1);
    DUE.is("ASLEEP can't begin", x.begin(0, 1, 1), -3);
    DUE.is("dawn", x.dawn(), 1);
    DUE.is("awake", x.of(1, 3), 0);
    DUE.is("YAWNS stay", x.of(1, 4), 2);
    DUE.is("begin", x.begin(0, 1, 1), 0);
  }

  private static void barred() {
    CradleDuel x = Due.two(100, 80);
    x.verse(30, 2);
    x.verse(40, 1);
    DUE.inForce(x, "bars if key = 2;tires 1000;lulls 0 if skill = 5");
    x.begin(0, 1, 10);
    DUE.is("BARRED", x.sing(0), -3);
    DUE.is("nothing came of it", x.of(1, 0), 80);
    DUE.is("nothing to undo", x.count(5), 1);
    DUE.is("not BARRED", x.sing(1), 40);
    DUE.is("WAKE", x.of(0, 0), 1);
    DUE.is("LULLS by 0", x.sing(1), 1);
    DUE.is("WAKE", x.of(1, 0), 1);
  }

  private static void cowsAtTheEdges() {
    CradleDuel x = Due.two(100, 1);
    x.verse(30, 2);
    x.cows(0, 9990);
    x.cows(1, 5);
    x.begin(0, 1, 10);
    DUE.is("sing", x.sing(0), 0);
    DUE.is("9,999 at most", x.count(13), 9999);
    DUE.is("as far as it has any", x.count(14), 0);
    x.undo();
    DUE.is("undone", x.count(13), 9990);
    DUE.is("undone", x.count(14), 5);
  }

  private static void draw() {
    CradleDuel x = Due.two(999, 999);
    x.verse(1, 0);
    x.verse(1, 1);
    x.begin(1, 0, 10);
    for (int i = 0; i < 24; i++) {
      DUE.is("HOUR", x.duel(3), i / 2);
      DUE.is("turn", x.duel(4), 1 - i % 2);
      x.sing(i % 2);
    }
    DUE.is("a DRAW", x.duel(0), -1);
    DUE.is("COWS", x.count(13), 100);
    DUE.is("nobody sleeps", x.of(0, 3) + x.of(1, 3), 0);
    int less = 0;
    for (int hour = 0; hour < 12; hour++) less += 1 + hour;
    DUE.is("WAKE", x.of(0, 0), 999 - less);
    DUE.is("16 are kept", x.count(5), 16);
    for (int i = 0; i < 16; i++) DUE.is("undo", x.undo(), 1);
    DUE.is("HOUR", x.duel(3), 4);
    DUE.is("undo", x.undo(), -3);
    DUE.is("status", x.status(), -3);
  }

  private static void dawns() {
    CradleDuel x = Due.two(100, 950);
    DUE.is("dawn", x.dawn(), 0);
    DUE.is("WAKE", x.of(0, 0), 200);
    DUE.is("999 at most", x.of(1, 0), 999);
    DUE.is("DAY", x.count(15), 1);
    x.terms(0, 998);
    DUE.is("dawn", x.dawn(), 0);
    DUE.is("behind 999 it can't be", x.dawn(), -3);
    DUE.is("DAY", x.count(15), 999);
    DUE.is("undo", x.undo(), 3);
    DUE.is("DAY", x.count(15), 998);
    DUE.inForce(x, "wakes 0");
    CradleDuel y = Due.two(5, 5);
    y.verse(9, 0);
    DUE.inForce(y, "wakes 0");
    y.begin(0, 1, 1);
    y.sing(0);
    DUE.is("dawn", y.dawn(), 1);
    DUE.is("nobody is ASLEEP", y.of(1, 3), 0);
    DUE.is("WAKE 0", y.of(1, 0), 0);
    DUE.is("begin", y.begin(0, 1, 1), -3);
  }

  private static void undoing() {
    CradleDuel x = Due.two(100, 80);
    DUE.is("none", x.undo(), -3);
    x.verse(40, 2);
    x.begin(0, 1, 7);
    x.sing(0);
    x.verse(1, 1);
    Due.law(x, "lulls 1");
    x.force(0);
    x.hears(0, 1, 1);
    x.piece(1, 1, 1);
    x.sight(0, 0, 0, 0, 0);
    DUE.is("these leave it", x.count(5), 2);
    DUE.is("sing", x.undo(), 1);
    DUE.is("WAKE", x.of(1, 0), 80);
    DUE.is("WAKE", x.of(0, 0), 100);
    DUE.is("YAWNS", x.of(1, 4), 0);
    DUE.is("KEY", x.duel(5), -1);
    DUE.is("turn", x.duel(4), 0);
    DUE.is("VERSES stay", x.count(1), 2);
    DUE.is("the LAW stays", x.count(12), 0);
    DUE.is("part", x.part(), 7);
    DUE.is("undo", x.undo(), 2);
    DUE.is("STAKE", x.duel(2), 7);
    DUE.is("undo", x.undo(), 0);
    DUE.is("no DUEL", x.duel(2), -1);
    for (int i = 0; i < 3; i++) {
      x.dawn();
      DUE.is("one", x.count(5), 1);
      if (i == 0) x.singer(1, 1, 1);
      if (i == 1) x.cows(0, 5);
      if (i == 2) x.terms(3, 5);
      DUE.is("none", x.count(5), 0);
      DUE.is("undo", x.undo(), -3);
    }
    x.dawn();
    x.singer(1000, 1, 1);
    x.cows(0, -1);
    x.terms(3, 10);
    DUE.is("REFUSED ones leave it", x.undo(), 3);
  }

  public static void main(String[] args) {
    begins();
    singing();
    barred();
    cowsAtTheEdges();
    draw();
    dawns();
    undoing();
    DUE.end("promises 21 to 26");
  }
}
