/** Promises 14, 18 to 20: what LAWS tell. */
public final class LawsTest {
  private static final Due DUE = new Due();

  private static CradleDuel duel() {
    CradleDuel x = Due.two(100, 80);
    x.verse(20, 1);
    x.verse(41, 2);
    x.begin(0, 1, 9);
    return x;
  }

  private static int lulls(String sum) {
    CradleDuel x = duel();
    DUE.inForce(x, "lulls " + sum);
    return x.asks(0, 0);
  }

  private static boolean holds(String test) {
    CradleDuel x = duel();
    DUE.inForce(x, "bars if " + test);
    return x.asks(0, 2) == 1;
  }

  private static void so(String test, boolean want) {
    DUE.is(test, holds(test) ? 1 : 0, want ? 1 : 0);
  }

  private static void sums() {
    DUE.is("plain", lulls("7"), 7);
    DUE.is("*, + ", lulls("2 + 3 * 4"), 14);
    DUE.is("from the left", lulls("100 - 30 - 20"), 50);
    DUE.is("/ and * from the left", lulls("100 / 7 * 7 % 5"), 3);
    DUE.is("brackets", lulls("[2 + 3] * [4 - [1 + 1]]"), 10);
    DUE.is("/ cut towards 0", lulls("10 + [0 - 7] / 2"), 7);
    DUE.is("% what is left then", lulls("10 + [0 - 7] % 2"), 9);
    DUE.is("the nearest above", lulls("1000"), 999);
    DUE.is("the nearest below", lulls("3 - 5"), 0);
    DUE.is("1,000,000,000 is not beyond", lulls("1000 * 1000 * 1000 / 1000 / 1000 / 1000"), 1);
    DUE.is("beyond on the way", lulls("[1000 * 1000 * 1000 + 1] / 1000 / 1000 / 1000"), 20);
    DUE.is("beyond below", lulls("[0 - 1000 * 1000 * 1000 - 1] / 1000 / 1000 / 1000"), 20);
    DUE.is("-1,000,000,000 is not beyond", lulls("[0 - 1000 * 1000 * 1000] / 1000 / 1000 / 1000 + 4"), 3);
    DUE.is("beyond by *", lulls("1000 * 1000 * 1000 * 1000 * 0"), 20);
    DUE.is("/ 0", lulls("5 / 0"), 20);
    DUE.is("% 0", lulls("5 % [1 - 1]"), 20);
    DUE.is("skill", lulls("skill"), 3);
    DUE.is("strong", lulls("strong"), 20);
    DUE.is("key", lulls("key"), 1);
    DUE.is("same", lulls("same"), 0);
    DUE.is("hour", lulls("hour"), 0);
    DUE.is("wake", lulls("wake"), 80);
    DUE.is("theirs", lulls("theirs"), 5);
    DUE.is("day", lulls("day"), 0);
    DUE.is("mood", lulls("mood"), 0);
  }

  private static void tests() {
    so("1 < 2", true);
    so("2 < 2", false);
    so("3 > 2", true);
    so("2 > 2", false);
    so("2 = 2", true);
    so("not 2 = 2", false);
    so("not not 2 = 2", true);
    so("not 1 < 2", false);
    so("not 2 > 1", false);
    so("not 2 < 1", true);
    so("not 1 > 2", true);
    so("1 = 1 or 1 = 1 and 1 = 2", true);
    so("(1 = 1 or 1 = 1) and 1 = 2", false);
    so("not 1 = 2 and 1 = 2", false);
    so("not (1 = 2 and 1 = 2)", true);
    so("1 = 1 or 1 / 0 = 1", true);
    so("1 / 0 = 1 or 1 = 1", false);
    so("1 = 2 and 1 / 0 = 1 or 1 = 1", true);
    so("1 = 2 and 1 / 0 = 1", false);
    so("not (1 = 2 and 1 / 0 = 1)", true);
    so("1 = 1 and 1 / 0 = 1", false);
    so("not (1 = 1 and 1 / 0 = 1)", false);
    so("1 = 2 or 1 = 2 or 1 = 1 or 1 / 0 = 0", true);
    so("1 = 1 and 2 = 2 and 3 = 4 and 1 / 0 = 0", false);
    so("1 / 0 = 1", false);
    so("not 1 / 0 = 1", false);
  }

  private static void clauses() {
    CradleDuel x = duel();
    DUE.inForce(x, "lulls 5; lulls 6 if strong = 41; lulls 7 / 0; lulls 8 if 1 / 0 = 1");
    DUE.is("the last that HOLDS", x.asks(0, 0), 5);
    DUE.is("the last that HOLDS", x.asks(1, 0), 6);
    DUE.is("without tires", x.asks(1, 1), 10);
    DUE.is("without bars", x.asks(0, 2), 0);
    DUE.is("without wakes", x.wakes(0), 100);
    DUE.inForce(x, "tires 1000; wakes 1000; bars if key = 2; bars if 1 / 0 = 1; bars if 1 = 2");
    DUE.is("tires at most", x.asks(0, 1), 99);
    DUE.is("wakes at most", x.wakes(1), 999);
    DUE.is("bars", x.asks(1, 2), 1);
    DUE.is("bars", x.asks(0, 2), 0);
    DUE.is("without lulls", x.asks(1, 0), 41);
    DUE.inForce(x, "tires 0 - 1;wakes 0 - 1");
    DUE.is("tires at least", x.asks(0, 1), 0);
    DUE.is("wakes at least", x.wakes(1), 0);
    DUE.inForce(x, "wakes 500 + strong + 10 * [key + 10 * [same + 10 * [hour + 1]]] + theirs if wake = 80");
    DUE.is("words that wakes has not", x.wakes(1), 500 - 1 + 10 * (-1 + 10 * (-1)) - 1);
    DUE.is("another WAKE", x.wakes(0), 100);
    DUE.inForce(x, "wakes skill * 100 + day + mood");
    x.terms(0, 40);
    x.terms(3, 6);
    DUE.is("wakes", x.wakes(0), 346);
    DUE.is("wakes", x.wakes(1), 546);
    DUE.is("wakes of no such", x.wakes(2), -1);
    DUE.is("wakes of no such", x.wakes(-1), -1);
    x.part();
    DUE.is("a DAWN asks on the next DAY", x.dawn(), 0);
    DUE.is("WAKE", x.of(0, 0), 447);
    DUE.is("WAKE", x.of(1, 0), 627);
  }

  private static void wordsInADuel() {
    CradleDuel x = duel();
    x.sing(0);
    x.sing(1);
    DUE.inForce(x, "lulls same * 100 + hour * 10 + skill");
    DUE.is("same", x.asks(1, 0), 113);
    DUE.is("not same", x.asks(0, 0), 13);
    DUE.inForce(x, "lulls wake; tires theirs; bars if key = 2 and same = 1");
    DUE.is("wake of who hears", x.asks(0, 0), x.of(1, 0));
    DUE.is("theirs", x.asks(0, 1), 5);
    DUE.is("BARRED", x.asks(1, 2), 1);
    DUE.is("no such", x.asks(2, 0), -1);
    DUE.is("no such", x.asks(-1, 0), -1);
    DUE.is("what 3", x.asks(0, 3), -1);
    DUE.is("what -1", x.asks(0, -1), -1);
    x.force(-1);
    DUE.is("twice, if SAME", x.asks(1, 0), 2 * (41 + 1));
    DUE.is("STRONG and HOUR", x.asks(0, 0), 21);
    x.part();
    DUE.is("no DUEL", x.asks(0, 0), -1);
  }

  private static void inForce() {
    CradleDuel x = duel();
    DUE.is("force of none", x.force(0), -2);
    DUE.is("status", x.status(), -2);
    DUE.is("force none", x.force(-1), -1);
    DUE.is("status", x.status(), 0);
    for (int i = 0; i < 6; i++) DUE.is("law", Due.law(x, "lulls " + (i + 1)), i);
    DUE.is("no room", Due.law(x, "lulls 1"), -5);
    DUE.is("count(4)", x.count(4), 6);
    DUE.is("none is in FORCE", x.asks(0, 0), 20);
    DUE.is("force", x.force(5), -1);
    DUE.is("asks", x.asks(0, 0), 6);
    DUE.is("force", x.force(2), 5);
    DUE.is("asks", x.asks(0, 0), 3);
    DUE.is("count(12)", x.count(12), 2);
    DUE.is("force of no such", x.force(6), -2);
    DUE.is("force of no such", x.force(-2), -2);
    DUE.is("it stays", x.count(12), 2);
    DUE.is("force none", x.force(-1), 2);
    DUE.is("asks", x.asks(0, 0), 20);
    DUE.is("undoing stays", x.count(5), 1);
  }

  public static void main(String[] args) {
    sums();
    tests();
    clauses();
    wordsInADuel();
    inForce();
    DUE.end("promises 14, 18 to 20");
  }
}
