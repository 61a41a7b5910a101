/** Promises 1 to 9: a new object, singers, verses, pieces, hearing, cows, terms. */
public final class SingersTest {
  private static final Due DUE = new Due();

  private static void newObject() {
    CradleDuel x = new CradleDuel();
    int[] counts = {0, 0, 0, 0, 0, 0, 0, 0, 0, 0, 0, 0, -1, 100, 100, 0, 30, 50, 0};
    for (int i = 0; i < counts.length; i++) DUE.is("new count(" + i + ")", x.count(i), counts[i]);
    DUE.is("new status()", x.status(), 0);
    DUE.is("new fault()", x.fault(), -1);
    DUE.is("new stopped()", x.stopped(), -1);
    DUE.is("new coughs()", x.coughs(), 0);
    for (int i = 0; i < 6; i++) DUE.is("new duel(" + i + ")", x.duel(i), -1);
  }

  private static void singers() {
    CradleDuel x = new CradleDuel();
    int[][] bad = {{-1, 0, 0}, {1000, 0, 0}, {0, -1, 0}, {0, 10, 0}, {0, 0, -1}, {0, 0, 2}, {Integer.MIN_VALUE, 0, 0}};
    for (int[] b : bad) {
      DUE.is("singer bad", x.singer(b[0], b[1], b[2]), -1);
      DUE.is("status", x.status(), -1);
    }
    DUE.is("none came", x.count(0), 0);
    for (int i = 0; i < 8; i++) DUE.is("singer", x.singer(i * 142, i, i % 2), i);
    DUE.is("status", x.status(), 0);
    DUE.is("no room", x.singer(1, 1, 1), -5);
    DUE.is("status", x.status(), -5);
    DUE.is("a number that can't be comes ahead of no room", x.singer(1, 1, 2), -1);
    DUE.is("count(7)", x.count(7), bad.length + 1);
    DUE.is("count(10)", x.count(10), 1);
    for (int i = 0; i < 8; i++) {
      DUE.is("WAKE", x.of(i, 0), i * 142);
      DUE.is("SKILL", x.of(i, 1), i);
      DUE.is("CLAN", x.of(i, 2), i % 2);
      DUE.is("ASLEEP", x.of(i, 3), 0);
      DUE.is("YAWNS", x.of(i, 4), 0);
      DUE.is("of 5", x.of(i, 5), -1);
      DUE.is("of -1", x.of(i, -1), -1);
    }
    DUE.is("no such", x.of(8, 0), -1);
    DUE.is("no such", x.of(-1, 0), -1);
    DUE.is("edges", new CradleDuel().singer(999, 9, 1), 0);
    DUE.is("edges", new CradleDuel().singer(0, 0, 0), 0);
  }

  private static void verses() {
    CradleDuel x = new CradleDuel();
    int[][] bad = {{0, 0}, {100, 0}, {1, -1}, {1, 5}};
    for (int[] b : bad) DUE.is("verse bad", x.verse(b[0], b[1]), -1);
    DUE.is("at of none", x.at(0, 0), -1);
    for (int i = 0; i < 10; i++) DUE.is("verse", x.verse(i == 0 ? 99 : i, i % 5), i);
    DUE.is("no room", x.verse(1, 1), -5);
    DUE.is("-1 ahead of -5", x.verse(0, 1), -1);
    DUE.is("status", x.status(), -1);
    for (int i = 0; i < 10; i++) {
      DUE.is("STRONG", x.at(i, 0), i == 0 ? 99 : i);
      DUE.is("KEY", x.at(i, 1), i % 5);
    }
    DUE.is("at 2", x.at(0, 2), -1);
    DUE.is("at -1", x.at(0, -1), -1);
    DUE.is("at of no such", x.at(10, 0), -1);
    DUE.is("at of no such", x.at(-1, 0), -1);
    DUE.is("count(1)", x.count(1), 10);
  }

  private static void pieces() {
    CradleDuel x = new CradleDuel();
    int[][] bad = {{0, 0, 1}, {100, 0, 1}, {1, -1, 1}, {1, 5, 1}, {1, 0, 0}, {1, 0, 10}};
    for (int[] b : bad) DUE.is("piece bad", x.piece(b[0], b[1], b[2]), -1);
    for (int i = 0; i < 10; i++) DUE.is("piece", x.piece(99 - i, i % 5, 1 + i % 9), i);
    DUE.is("no room", x.piece(1, 1, 1), -5);
    DUE.is("-1 ahead of -5", x.piece(1, 1, 0), -1);
    DUE.is("count(2)", x.count(2), 10);
  }

  private static void hearing() {
    CradleDuel x = Due.two(10, 10);
    DUE.is("was not", x.hears(0, 1, 1), 0);
    DUE.is("was", x.hears(0, 1, 1), 1);
    DUE.is("one way", x.hears(1, 0, 0), 0);
    DUE.is("was", x.hears(0, 1, 0), 1);
    DUE.is("was not", x.hears(0, 1, 0), 0);
    DUE.is("alike", x.hears(1, 1, 0), -1);
    DUE.is("alike, none such", x.hears(9, 9, 0), -1);
    DUE.is("is 2", x.hears(0, 1, 2), -1);
    DUE.is("is -1, no such", x.hears(0, 7, -1), -1);
    DUE.is("no such", x.hears(0, 2, 1), -2);
    DUE.is("no such", x.hears(-1, 0, 1), -2);
    DUE.is("status", x.status(), -2);
    DUE.is("count(8)", x.count(8), 2);
  }

  private static void cowsAndTerms() {
    CradleDuel x = new CradleDuel();
    DUE.is("cows", x.cows(0, 9999), 100);
    DUE.is("cows", x.cows(0, 0), 9999);
    DUE.is("cows", x.cows(1, 5), 100);
    DUE.is("count(13)", x.count(13), 0);
    DUE.is("count(14)", x.count(14), 5);
    int[][] bad = {{-1, 0}, {2, 0}, {0, -1}, {1, 10000}};
    for (int[] b : bad) DUE.is("cows bad", x.cows(b[0], b[1]), -1);
    int[] was = {0, 30, 50, 0};
    int[] least = {0, 1, 0, 0};
    int[] most = {999, 999, 999, 9};
    for (int i = 0; i < 4; i++) {
      DUE.is("terms", x.terms(i, most[i]), was[i]);
      DUE.is("terms", x.terms(i, least[i]), most[i]);
      DUE.is("terms above", x.terms(i, most[i] + 1), -1);
      DUE.is("terms below", x.terms(i, least[i] - 1), -1);
      DUE.is("count", x.count(15 + i), least[i]);
    }
    DUE.is("terms 4", x.terms(4, 1), -1);
    DUE.is("terms -1", x.terms(-1, 1), -1);
    DUE.is("count(7)", x.count(7), 14);
  }

  public static void main(String[] args) {
    newObject();
    singers();
    verses();
    pieces();
    hearing();
    cowsAndTerms();
    DUE.end("promises 1 to 9");
  }
}
