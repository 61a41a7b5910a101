import java.util.List;

/** Terms II, as LAWS and ORDERS are asked and run, and promises 18 to 20: the words that name an edge, each by itself. */
public final class EdgesOfLawsTest {
  private static final Due DUE = new Due();
  private static final String BILLION = "1000 * 1000 * 1000";

  // what a SUM is, 0 .. 999; 20 is what VERSE 0 LULLS by without
  private static int lulls(String sum) {
    CradleDuel x = Due.duel(100, 80);
    DUE.inForce(x, "lulls " + sum);
    return x.asks(0, 0);
  }

  private static boolean isSo(String test) {
    CradleDuel x = Due.duel(100, 80);
    DUE.inForce(x, "bars if " + test);
    return x.asks(0, 2) == 1;
  }

  private static void so(String test) { DUE.is(test + " is so", isSo(test) ? 1 : 0, 1); }

  // neither it nor its contrary is so
  private static void broken(String test) {
    DUE.is(test + " is BROKEN", isSo(test) ? 1 : 0, 0);
    DUE.is("not (" + test + ") is BROKEN", isSo("not (" + test + ")") ? 1 : 0, 0);
  }

  private static void notSo(String test) {
    DUE.is(test + " is not so", isSo(test) ? 1 : 0, 0);
    so("not (" + test + ")");
  }

  private static void beyond() {
    DUE.says("II: Beyond 1,000,000,000 either way");
    DUE.is("1,000,000,000", lulls(BILLION + " - " + BILLION + " + 7"), 7);
    so(BILLION + " = " + BILLION);
    so(BILLION + " > 999");
    so("0 - " + BILLION + " < 0");
    so("0 - " + BILLION + " = 0 - " + BILLION);
    so("999 + [" + BILLION + " - 999] = " + BILLION);
    broken(BILLION + " + 1 > 0");
    broken("1 + " + BILLION + " > 0");
    broken("0 - " + BILLION + " - 1 < 0");
    broken("[0 - 1000] * 1000 * [1000 + 1] < 0");
    broken("1000 * 1000 * [1000 + 1] > 0");
    broken("0 < " + BILLION + " + 1");
    broken(BILLION + " + 1 - 1 > 0");
    broken("[" + BILLION + " + 1] * 0 = 0");
    broken(BILLION + " * 1000 * 1000 * 1000 * 0 = 0");
    broken("0 - [0 - " + BILLION + "] + 1 = 0");
    so("0 - [0 - " + BILLION + "] = " + BILLION);
    // beyond what an int, what a long holds
    broken(BILLION + " * 3 > 0");
    broken(BILLION + " * [" + BILLION + "] > 0");
    broken(BILLION + " * 1000 * 1000 * 1000 * 1000 > 0");
    DUE.is("a BROKEN SUM tells nothing", lulls(BILLION + " + 1"), 20);
  }

  private static void dividedByNothing() {
    DUE.says("II: or divided by 0 (/ cut towards 0, % what is left then), a SUM, a TEST is BROKEN");
    DUE.is("7 / 0", lulls("7 / 0"), 20);
    DUE.is("7 % 0", lulls("7 % 0"), 20);
    DUE.is("0 / 0", lulls("0 / 0"), 20);
    DUE.is("0 % 0", lulls("0 % 0"), 20);
    DUE.is("by a SUM that is 0", lulls("7 / [strong - 20]"), 20);
    DUE.is("0 times that", lulls("0 * [7 / 0]"), 20);
    broken("1 / 0 = 1");
    broken("1 = 1 % 0");
    so("7 / 2 = 3");
    so("[0 - 7] / 2 = 0 - 3");
    so("7 / [0 - 2] = 0 - 3");
    so("[0 - 7] / [0 - 2] = 3");
    so("7 % 2 = 1");
    so("[0 - 7] % 2 = 0 - 1");
    so("7 % [0 - 2] = 1");
    so("[0 - 7] % [0 - 2] = 0 - 1");
    so("1 / 2 = 0");
    so("[0 - 1] / 2 = 0");
    so("0 / 7 = 0");
    so("0 % 7 = 0");
    so("[0 - " + BILLION + "] / [0 - 1] = " + BILLION);
    so("[0 - " + BILLION + "] % [0 - 1] = 0");
    so("[0 - 6] % 3 = 0");
  }

  private static void onlyIfItMatters() {
    DUE.says("II: (\"or\", \"and\" ask what stands behind only if it can still matter).");
    so("1 = 1 or 1 / 0 = 1");
    so("1 = 1 or (1 = 1 and 1 / 0 = 1)");
    so("1 = 2 or 1 = 1 or 1 / 0 = 1");
    so("1 = 1 and 1 = 1 or 1 / 0 = 1");
    so("1 = 2 and 1 / 0 = 1 or 1 = 1");
    so("(1 = 1 or 1 / 0 = 1) and 1 = 1");
    so("not (1 = 2 and 1 / 0 = 1) and 1 = 1");
    notSo("1 = 2 and 1 / 0 = 1");
    notSo("1 = 1 and 1 = 2 and 1 / 0 = 1");
    notSo("1 = 2 and (1 = 2 or 1 / 0 = 1)");
    notSo("1 = 2 and 1 / 0 = 1 and 1 / 0 = 1 or 1 = 2");
    broken("1 / 0 = 1 or 1 = 1");
    broken("1 = 2 or 1 / 0 = 1");
    broken("1 = 2 or 1 / 0 = 1 or 1 = 1");
    broken("1 / 0 = 1 and 1 = 2");
    broken("1 = 1 and 1 / 0 = 1");
    broken("1 = 1 and 1 / 0 = 1 or 1 = 1");
    broken("(1 = 2 or 1 / 0 = 1) or 1 = 1");
    broken("(1 = 1 and 1 / 0 = 1) and 1 = 2");
    broken("not 1 / 0 = 1");
    broken("not not 1 / 0 = 1");
  }

  private static void longTests() {
    DUE.says("II: TEST: BOTH {\"or\" BOTH}. BOTH: PLAIN {\"and\" PLAIN}.");
    so("1=2 or ".repeat(24) + "1=1");
    notSo("1=2 or ".repeat(24) + "1=2");
    so("1=1 and ".repeat(24) + "1=1");
    notSo("1=1 and ".repeat(24) + "1=2");
    so("1=2 and 1=1 or ".repeat(12) + "1=1");
    notSo("1=1 and 1=2 or ".repeat(12) + "1=2");
    // all that can wait at once: in 8 brackets a SUM and a TERM each
    String deep = "1+1*[".repeat(8) + "1" + "]".repeat(8);
    so("1=2 or ".repeat(15) + "9=" + deep);
    so("1=1 and ".repeat(15) + "9=" + deep);
    DUE.is("8 is not 9", isSo("1=2 or ".repeat(15) + "8=" + deep) ? 1 : 0, 0);
    so("(1=2 or ".repeat(7) + "9=" + "1+1*[" + "1" + "]+7" + ")".repeat(7));
  }

  private static void lessAndMore() {
    DUE.says("II: PLAIN: \"not\" PLAIN | \"(\" TEST \")\" | SUM (\"<\" | \">\" | \"=\") SUM.");
    for (int left = 0; left < 4; left++) {
      for (int right = 0; right < 4; right++) {
        DUE.is(left + " < " + right, isSo(left + " < " + right) ? 1 : 0, left < right ? 1 : 0);
        DUE.is(left + " > " + right, isSo(left + " > " + right) ? 1 : 0, left > right ? 1 : 0);
        DUE.is(left + " = " + right, isSo(left + " = " + right) ? 1 : 0, left == right ? 1 : 0);
        DUE.is("not " + left + " < " + right, isSo("not " + left + " < " + right) ? 1 : 0, left < right ? 0 : 1);
      }
    }
    so("not 1 = 2 or 1 = 1");
    so("not 1 = 1 or 1 = 1");
    notSo("not (1 = 1 or 1 = 1)");
    so("1 = 1 or 1 = 1 and 1 = 2");
    notSo("(1 = 1 or 1 = 1) and 1 = 2");
    so("2 + 3 * 4 = 14");
    so("[2 + 3] * 4 = 20");
    so("20 - 3 - 4 = 13");
    so("20 - [3 - 4] = 21");
    so("20 / 5 / 2 = 2");
    so("20 / [5 / 2] = 10");
    so("20 % 7 * 3 = 18");
    so("3 * 20 % 7 = 4");
    so("7 - 20 < 0");
  }

  private static void noneInForce() {
    DUE.says("II: one is in FORCE (NONE at first: no CLAUSE)", "18: A LAW is in FORCE (NONE: none): which was.", "18: -2.");
    CradleDuel x = Due.duel(100, 80);
    DUE.is("at first", x.count(12), -1);
    DUE.is("none for none", x.force(-1), -1);
    DUE.is("status", x.status(), 0);
    DUE.refused(x, "there is no LAW", x.force(0), -2);
    for (int i = 0; i < 6; i++) Due.law(x, "lulls " + (30 + i));
    DUE.is("a LAW alone is not in FORCE", x.asks(0, 0), 20);
    DUE.is("the first", x.force(0), -1);
    DUE.is("it tells", x.asks(0, 0), 30);
    DUE.is("the last", x.force(5), 0);
    DUE.is("it tells", x.asks(0, 0), 35);
    DUE.refused(x, "LAW 6", x.force(6), -2);
    DUE.refused(x, "LAW -2", x.force(-2), -2);
    DUE.far("LAW", -2, law -> x.force(law));
    DUE.is("the last is in FORCE still", x.count(12), 5);
    DUE.is("the same again", x.force(5), 5);
    DUE.is("none", x.force(-1), 5);
    DUE.is("none was", x.force(-1), -1);
    DUE.is("without", x.asks(0, 0), 20);
    DUE.is("count(8)", x.count(8), 3 + Due.FAR.length);
    CradleDuel y = Due.duel(100, 80);
    for (int i = 0; i < 3; i++) Due.law(y, "bars");
    DUE.refused(y, "one more than there are", y.force(3), -2);
    DUE.is("the last of them", y.force(2), -1);
  }

  private static void wordsOfAVerse() {
    DUE.says("II: the others of a VERSE sung by one in an HOUR (skill: of who sings; same: 1, if its KEY is that sung last in that DUEL, else 0;"
        + " wake: of who hears; theirs: SKILL of that one).");
    askAll(0, 1, 3, 2, 2, 0, 0, 600, 5, 77, 9);
    // the other one sings: 700 is as it was, STRONG 1 tires by 0
    askAll(1, 0, 5, 1, 1, 1, 0, 700, 3, 77, 9);
    askAll(1, 1, 5, 2, 2, 0, 0, 700, 3, 77, 9);
    // 600 - 1 heard; the next HOUR
    askAll(2, 1, 3, 2, 2, 1, 1, 599, 5, 77, 9);
    askAll(2, 0, 3, 1, 1, 0, 1, 599, 5, 77, 9);
  }

  // each word behind so many VERSES, in "lulls" (all are below 1000), in "tires" and in the TEST of "bars"
  private static void askAll(int sung, int verse, int... due) {
    String[] words = {"skill", "strong", "key", "same", "hour", "wake", "theirs", "day", "mood"};
    for (int i = 0; i < words.length; i++) {
      CradleDuel x = Due.two(700, 600);
      x.verse(1, 1);
      x.verse(2, 2);
      x.terms(0, 77);
      x.terms(3, 9);
      x.begin(0, 1, 9);
      for (int k = 0; k < sung; k++) x.sing(k);
      DUE.inForce(x, "lulls " + words[i] + ";tires " + words[i] + ";bars if " + words[i] + " = " + due[i]);
      DUE.is("lulls " + words[i], x.asks(verse, 0), due[i]);
      DUE.is("tires " + words[i], x.asks(verse, 1), Math.min(99, due[i]));
      DUE.is("bars if " + words[i] + " = " + due[i], x.asks(verse, 2), 1);
    }
  }

  private static void keyOfAnEarlierDuel() {
    DUE.says("II: same: 1, if its KEY is that sung last in that DUEL, else 0;");
    CradleDuel x = new CradleDuel();
    x.singer(900, 3, 0);
    x.singer(900, 3, 1);
    x.verse(10, 0);
    x.begin(0, 1, 1);
    DUE.is("KEY 0, none sung yet", x.asks(0, 0), 10);
    x.sing(0);
    DUE.is("the same KEY", x.asks(0, 0), 20);
    x.part();
    x.begin(0, 1, 1);
    DUE.is("another DUEL", x.asks(0, 0), 10);
  }

  private static void wakesOfASinger() {
    DUE.says("II: \"wakes\" is asked of a SINGER (skill, wake; strong, key, same, hour, theirs -1)");
    CradleDuel x = Due.duel(100, 80);
    x.sing(0);
    x.terms(0, 5);
    x.terms(3, 4);
    for (String word : new String[] {"strong", "key", "same", "hour", "theirs"}) {
      x.image(0);
      x.force(Due.law(x, "wakes 500 + " + word));
      DUE.is("wakes 500 + " + word, x.wakes(0), 499);
      DUE.is("wakes 500 + " + word, x.wakes(1), 499);
      x.back(0);
    }
    x.force(Due.law(x, "wakes skill"));
    DUE.is("skill", x.wakes(0) * 10 + x.wakes(1), 35);
    x.force(Due.law(x, "wakes wake"));
    DUE.is("wake", x.wakes(0), 95);
    DUE.is("wake", x.wakes(1), 60);
    x.force(Due.law(x, "wakes day * 10 + mood"));
    DUE.is("day, mood", x.wakes(0), 54);
  }

  private static void holds() {
    DUE.says("II: A CLAUSE HOLDS, if its \"if\" (if it has one) is so, and neither that nor its SUM is BROKEN.");
    CradleDuel x = Due.duel(100, 80);
    x.image(0);
    String[] notHolding = {"if 1 = 2", "if 1 / 0 = 1", "if not 1 / 0 = 1", "if " + BILLION + " + 1 > 0"};
    for (String test : notHolding) {
      x.force(Due.law(x, "lulls 7 " + test + ";tires 7 " + test + ";wakes 7 " + test + ";bars " + test));
      DUE.is("lulls " + test, x.asks(0, 0), 20);
      DUE.is("tires " + test, x.asks(0, 1), 5);
      DUE.is("bars " + test, x.asks(0, 2), 0);
      DUE.is("wakes " + test, x.wakes(0), 100);
      x.back(0);
    }
    x.force(Due.law(x, "lulls 7 / 0;tires 7 % 0;wakes " + BILLION + " + 1"));
    DUE.is("a BROKEN lulls", x.asks(0, 0), 20);
    DUE.is("a BROKEN tires", x.asks(0, 1), 5);
    DUE.is("a BROKEN wakes", x.wakes(0), 100);
    x.force(Due.law(x, "lulls 7 if 1 = 1;tires 6 if 1 = 1;wakes 5 if 1 = 1;bars if 1 = 1"));
    DUE.is("that HOLDS", x.asks(0, 0) * 1000 + x.asks(0, 1) * 100 + x.wakes(0) * 10 + x.asks(0, 2), 7651);
    x.force(Due.law(x, "lulls 7 / 0 if 1 = 1;bars"));
    DUE.is("so, but BROKEN", x.asks(0, 0), 20);
    DUE.is("bars without if", x.asks(0, 2), 1);
  }

  private static void lastThatHolds() {
    DUE.says("II: A VERSE LULLS by what the last \"lulls\" that HOLDS tells");
    CradleDuel x = Due.duel(100, 80);
    x.force(Due.law(x, "lulls 1;lulls 2;lulls 3;lulls 4 if 1 = 2;lulls 5 / 0;lulls 6 if 1 / 0 = 1"));
    DUE.is("the third", x.asks(0, 0), 3);
    x.force(Due.law(x, "lulls 1;lulls 2 if 1 = 2"));
    DUE.is("the first", x.asks(0, 0), 1);
    x.force(Due.law(x, "lulls 1;tires 2;wakes 3;bars if 1 = 2;lulls 0"));
    DUE.is("the last, though it is 0", x.asks(0, 0), 0);
    x.force(Due.law(x, "tires 1;tires 2;tires 3 if 1 = 2;wakes 4;wakes 5;wakes 6 / 0"));
    DUE.is("tires", x.asks(0, 1), 2);
    DUE.is("wakes", x.wakes(0), 5);
    x.force(Due.law(x, "bars;bars if 1 = 2;bars if 1 / 0 = 1"));
    DUE.is("one that HOLDS is enough", x.asks(0, 2), 1);
    DUE.is("BARRED", x.sing(0), -3);
    x.force(Due.law(x, "lulls 11" + ";lulls 12 if 1 = 2".repeat(10) + ";lulls 13 / 0"));
    DUE.is("the first of 12", x.asks(0, 0), 11);
  }

  private static void nearest() {
    DUE.says("II: tells, 0 .. 999 (else the nearest)");
    int[][] told = {{-1000, 0}, {-2, 0}, {-1, 0}, {0, 0}, {1, 1}, {998, 998}, {999, 999}, {1000, 999}, {1001, 999}, {100000, 999}};
    for (int[] t : told) {
      CradleDuel x = Due.duel(100, 80);
      x.force(Due.law(x, "lulls " + sum(t[0]) + ";wakes " + sum(t[0])));
      DUE.is("lulls " + t[0], x.asks(0, 0), t[1]);
      DUE.is("wakes " + t[0], x.wakes(0), t[1]);
    }
    DUE.is("the most of all", lulls(BILLION), 999);
    DUE.is("the least of all", lulls("0 - " + BILLION), 0);
  }

  private static String sum(int value) {
    return value < 0 ? "0 - " + -value : value > 1000 ? value / 1000 + " * 1000 + " + value % 1000 : String.valueOf(value);
  }

  private static void lullsWithout() {
    DUE.says("II: without by STRONG and HOUR, twice that if SAME;");
    CradleDuel x = Due.two(999, 999);
    x.verse(1, 0);
    x.verse(99, 1);
    x.verse(1, 2);
    x.begin(0, 1, 1);
    DUE.is("STRONG 1, HOUR 0", x.asks(0, 0), 1);
    DUE.is("STRONG 99, HOUR 0", x.asks(1, 0), 99);
    for (int i = 0; i < 22; i++) x.sing(i % 2 == 0 ? 0 : 2);
    DUE.is("HOUR", x.duel(3), 11);
    DUE.is("STRONG 99, HOUR 11", x.asks(1, 0), 110);
    DUE.is("STRONG 1, HOUR 11, SAME", x.asks(2, 0), 24);
    DUE.is("STRONG 1, HOUR 11", x.asks(0, 0), 12);
    x.sing(1);
    DUE.is("STRONG 99, HOUR 11, SAME", x.asks(1, 0), 220);
    x.force(Due.law(x, "lulls strong + hour"));
    DUE.is("what a LAW tells is not twice", x.asks(1, 0), 110);
  }

  private static void tires() {
    DUE.says("II: singing TIRES by what \"tires\" tells, 0 .. 99, STRONG by 4 (cut) without;");
    int[][] strong = {{1, 0}, {3, 0}, {4, 1}, {7, 1}, {8, 2}, {98, 24}, {99, 24}};
    for (int[] s : strong) {
      CradleDuel x = Due.two(100, 999);
      x.verse(s[0], 0);
      x.begin(0, 1, 1);
      DUE.is("STRONG " + s[0], x.asks(0, 1), s[1]);
      x.sing(0);
      DUE.is("WAKE", x.of(0, 0), 100 - s[1]);
    }
    int[][] told = {{-1, 0}, {0, 0}, {1, 1}, {98, 98}, {99, 99}, {100, 99}, {1000, 99}};
    for (int[] t : told) {
      CradleDuel x = Due.duel(500, 999);
      x.force(Due.law(x, "tires " + sum(t[0])));
      DUE.is("tires " + t[0], x.asks(0, 1), t[1]);
      x.sing(0);
      DUE.is("WAKE", x.of(0, 0), 500 - t[1]);
    }
  }

  private static void wakesByDay() {
    DUE.says("II: by day one WAKES by what \"wakes\" tells, 0 .. 999, 100 without;", "20: How a SINGER WAKES.", "20: NONE.");
    CradleDuel x = Due.two(0, 999);
    DUE.is("without", x.wakes(0), 100);
    DUE.is("without, at 999, too", x.wakes(1), 100);
    Due.law(x, "wakes 7");
    DUE.is("not in FORCE", x.wakes(0), 100);
    x.force(0);
    DUE.is("in FORCE", x.wakes(0), 7);
    DUE.range("SINGER", 0, 1, -1, singer -> x.wakes(singer));
    DUE.is("no SINGERS", new CradleDuel().wakes(0), -1);
    DUE.is("status", x.status(), 0);
    x.verse(1, 1);
    x.force(-1);
    x.singer(5, 5, 1);
    x.singer(5, 5, 0);
    x.begin(2, 3, 1);
    DUE.is("in a DUEL, too", x.wakes(2), 100);
  }

  private static void asksOfAVerse() {
    DUE.says("19: Of a VERSE sung by who has the turn how it LULLS (what 0), TIRES (1), whether BARRED (2: 1, 0).", "19: NONE (no DUEL).");
    CradleDuel x = Due.two(100, 80);
    x.verse(20, 1);
    x.verse(40, 2);
    for (int what = 0; what < 3; what++) DUE.is("no DUEL", x.asks(0, what), -1);
    x.begin(0, 1, 9);
    DUE.range("VERSE", 0, 1, -1, verse -> x.asks(verse, 0));
    DUE.range("VERSE", 0, 1, -1, verse -> x.asks(verse, 2));
    DUE.range("what", 0, 2, -1, what -> x.asks(0, what));
    x.force(Due.law(x, "bars if skill = 5;lulls skill;tires skill + 50"));
    DUE.is("the first one's turn", x.asks(1, 0) * 1000 + x.asks(1, 1) * 10 + x.asks(1, 2), 3530);
    x.sing(0);
    DUE.is("the other one's", x.asks(1, 0) * 1000 + x.asks(1, 1) * 10 + x.asks(1, 2), 5551);
    DUE.is("it is only asked", x.count(5), 2);
    x.part();
    for (int what = 0; what < 3; what++) DUE.is("no DUEL", x.asks(0, what), -1);
    DUE.is("no VERSES in a DUEL", noVerses().asks(0, 0), -1);
    DUE.is("status", x.status(), 0);
  }

  private static CradleDuel noVerses() {
    CradleDuel x = Due.two(100, 80);
    x.begin(0, 1, 9);
    return x;
  }

  private static void barred() {
    DUE.says("II: a VERSE is BARRED, if \"bars\" HOLDS.", "III: To SING: who has the turn SINGS a VERSE that is not BARRED:");
    CradleDuel x = Due.duel(100, 80);
    x.force(Due.law(x, "bars if key = 2"));
    DUE.is("not", x.asks(0, 2), 0);
    DUE.is("BARRED", x.asks(1, 2), 1);
    DUE.is("how it would LULL", x.asks(1, 0), 40);
    DUE.is("how it would TIRE", x.asks(1, 1), 10);
    List<String> ahead = Due.look(x);
    DUE.refused(x, "sing", x.sing(1), -3);
    DUE.same("sing", ahead, Due.look(x));
    DUE.is("the other one", x.sing(0), 60);
    x.force(-1);
    DUE.is("no LAW", x.sing(1), 95 - 40);
  }

  private static void runByTimes() {
    DUE.says("II: Run CLAUSE by CLAUSE, each as often as TIMES tell (once without);",
        "II: each time its \"if\" is asked (not run, if it is not so or BROKEN), then its SUMS from the left.");
    CradleDuel x = Due.two(300, 200);
    x.verse(20, 0);
    x.verse(10, 1);
    DUE.is("once without", Due.orders(x, "dawn"), 1);
    DUE.is("asked each time", Due.orders(x, "dawn times 20 if day < 5"), 4);
    DUE.is("DAY", x.count(15), 5);
    DUE.is("BROKEN at DAY 7, then never", Due.orders(x, "dawn times 20 if 1 / [7 - day] < 9"), 2);
    DUE.is("BROKEN first, so none", Due.orders(x, "dawn times 20 if 1 / [7 - day] < 9"), 0);
    DUE.is("not so, then so by the next CLAUSE", Due.orders(x, "dawn if day = 8;dawn;dawn if day = 8"), 2);
    DUE.is("SUMS anew each time", Due.orders(x, "begin 0 with 1 for day;sing done % 2 times 2;sing 1 - done % 2 times 2"), 5);
    // VERSES 1, 0 (HOUR 0), then 1 - 3 % 2 = 0 and 1 - 4 % 2 = 1
    DUE.is("STAKE", x.duel(2), 9);
    DUE.is("KEY", x.duel(5), 1);
    DUE.is("not so: its SUMS are not asked", Due.orders(x, "sing 1 / 0 if 1 = 2;begin 1 / 0 with 1 for 1 if 1 / 0 = 1"), 0);
    DUE.is("stopped", x.stopped(), -1);
  }

  private static void whatSumsAre() {
    DUE.says("II: (two SINGERS, a STAKE; a VERSE.)");
    CradleDuel x = Due.two(300, 200);
    x.verse(20, 0);
    x.verse(30, 1);
    DUE.is("begin", Due.orders(x, "begin 2 - 1 with 1 - 1 for 100 - 1"), 1);
    DUE.is("the first, the second, the STAKE", x.duel(0) * 1000 + x.duel(1) * 100 + x.duel(2), 1099);
    DUE.is("the first one's turn", x.duel(4), 1);
    DUE.is("sing", Due.orders(x, "sing 3 % 2"), 1);
    DUE.is("the VERSE", x.duel(5) * 1000 + x.of(0, 0), 1270);
    DUE.is("part", Due.orders(x, "part"), 1);
    DUE.is("no DUEL", x.duel(0), -1);
    DUE.is("dawn", Due.orders(x, "dawn"), 1);
    DUE.is("DAY", x.count(15), 1);
  }

  private static void wordsOfOrders() {
    DUE.says("II: hour, turn: of the DUEL (-1: none; turn: the SINGER), done: how many were run in this TEXT,"
        + " last: WAKE of who heard the latest VERSE in it (-1: none), wake: of a SINGER (-1: no such).");
    CradleDuel x = Due.two(300, 200);
    x.verse(20, 0);
    DUE.is("no DUEL", Due.orders(x, "dawn if hour = 0 - 1 and turn = 0 - 1 and done = 0 and last = 0 - 1"), 1);
    DUE.is("wake", Due.orders(x, "dawn if wake 0 = 400 and wake 1 = 300 and wake 2 = 0 - 1 and wake 7 = 0 - 1"), 1);
    DUE.is("cows", Due.orders(x, "dawn if cows 0 = 100 and cows 1 = 100 and day = 2"), 1);
    x.begin(1, 0, 4);
    DUE.is("the first one's turn", Due.orders(x, "sing 0 if turn = 1 and hour = 0 and last = 0 - 1"), 1);
    // 600 - 20
    DUE.is("the other one's", Due.orders(x, "sing 0 if turn = 0 and hour = 0 and last = 0 - 1 and wake 0 = 580"), 1);
    DUE.is("the next HOUR", Due.orders(x, "part if turn = 1 and hour = 1 and last = 0 - 1"), 1);
    DUE.is("done is of this TEXT", Due.orders(x, "dawn if done = 0;dawn if done = 1;dawn if done = 1;dawn if done = 2"), 3);
    DUE.is("last", Due.orders(x, "begin 0 with 1 for 1;sing 0;part if last = wake 1 and not last = wake 0;dawn if done = 3"), 4);
    DUE.is("last is of this TEXT", Due.orders(x, "dawn if last = 0 - 1;dawn if last > 0"), 1);
    CradleDuel y = Due.two(300, 20);
    y.verse(20, 0);
    DUE.is("last 0, DUEL over", Due.orders(y, "begin 0 with 1 for 1;sing 0;dawn if last = 0 and hour = 0 - 1 and turn = 0 - 1 and cows 0 = 101 and cows 1 = 99"), 3);
  }

  private static void allAsItWas() {
    DUE.says("II: One that can't be (a BROKEN SUM, as begin(), sing(), part(), dawn() are REFUSED) ends it: all is as it was ahead of it.");
    String[] cannot = {
      "sing 1 / 0", "begin 1 / 0 with 1 for 1", "begin 0 with 1 / 0 for 1", "begin 1 with 1 / 0 for 1", "begin 0 with 1 for 1 / 0", "sing " + BILLION + " + 1",
      "begin 0 with 1 for 0", "begin 0 with 1 for 100", "begin 2 with 1 for 1", "begin 0 with 2 for 1", "begin 0 with 0 for 1",
      "begin 0 - 1 with 1 for 1", "sing 0", "part", "begin 0 with 1 for 1;begin 0 with 1 for 1", "begin 0 with 1 for 1;dawn",
      "begin 0 with 1 for 1;sing 2", "begin 0 with 1 for 1;sing 1 / 0", "begin 0 with 1 for 1;sing 0 % 0", "begin 0 with 1 for 1;sing 0 - 1", "dawn times 20" + ";dawn times 20".repeat(5) + ";sing 0"};
    for (String last : cannot) {
      String text = "begin 0 with 1 for 7;sing 0;sing 1;part;dawn;" + last;
      CradleDuel x = Due.two(300, 200);
      x.verse(20, 0);
      x.verse(30, 1);
      for (int i = 0; i < 3; i++) x.dawn();
      List<String> ahead = Due.look(x);
      DUE.refused(x, text, Due.orders(x, text), -3);
      DUE.is("count(9)", x.count(9), 1);
      DUE.is("no other count", x.count(7) + x.count(8) + x.count(10) + x.count(11), 0);
      DUE.is("stopped", x.stopped(), 5 + last.length() - last.replace(";", "").length());
      Due.orders(x, "dawn if 1 = 2");
      DUE.same(text, ahead, Due.look(x));
      for (int i = 3; i > 0; i--) {
        DUE.is("undo", x.undo(), 3);
        DUE.is("DAY", x.count(15), i - 1);
      }
    }
  }

  // more than are kept were done ahead, and ORDERS that can't be did as many anew
  private static void keptAsItWas() {
    DUE.says("II: all is as it was ahead of it.");
    for (int many = 12; many <= 30; many++) {
      CradleDuel x = Due.two(300, 200);
      x.verse(1, 0);
      for (int i = 0; i < many; i++) {
        if (i % 3 == 0) x.begin(0, 1, 1);
        if (i % 3 == 1) x.part();
        if (i % 3 == 2) x.dawn();
      }
      if (many % 3 == 1) x.part();
      int all = many % 3 == 1 ? many + 1 : many;
      DUE.is("stops", Due.orders(x, "dawn times 7;begin 0 with 1 for 1;sing 0 times 13;part;dawn times 9;part"), -3);
      DUE.is("count(5)", x.count(5), Math.min(16, all));
      for (int i = all - 1; i >= Math.max(0, all - 16); i--) {
        DUE.is("undo of " + i, x.undo(), i % 3 == 0 ? 0 : i % 3 + 1);
        DUE.is("DAY", x.count(15), i / 3);
        DUE.is("a DUEL or none", x.duel(0), i % 3 == 1 ? 0 : -1);
      }
      DUE.refused(x, "no more", x.undo(), -3);
    }
  }

  private static void lastDayInOrders() {
    DUE.says("II: as begin(), sing(), part(), dawn() are REFUSED");
    CradleDuel x = Due.two(300, 200);
    x.terms(0, 980);
    DUE.is("DAY 999 is the last", Due.orders(x, "dawn times 20"), -3);
    DUE.is("DAY", x.count(15), 980);
    DUE.is("nothing to undo", x.count(5), 0);
    DUE.is("19 of them", Due.orders(x, "dawn times 19"), 19);
    DUE.is("DAY", x.count(15), 999);
    CradleDuel y = Due.duel(999, 999);
    y.force(Due.law(y, "lulls 1;tires 0;bars if hour = 11 and skill = 5"));
    DUE.is("23 are sung, the 24th is BARRED", Due.orders(y, "sing 0 times 20;sing 0 times 3;sing 0"), -3);
    DUE.is("stopped", y.stopped(), 2);
    DUE.is("HOUR", y.duel(3), 0);
    y.force(-1);
    DUE.is("a 25th can't be", Due.orders(y, "sing 0 times 12;sing 1 times 12;sing 0"), -3);
    DUE.is("24 are sung: a DRAW", Due.orders(y, "sing 0 times 12;sing 1 times 12;dawn"), 25);
    // 80 - 40, then 100 - 10 - 80, then 40 - 10 - 82: none is left behind the third
    DUE.is("the DUEL ends by sleep", Due.orders(Due.duel(100, 80), "sing 1 times 20 if turn > 0 - 1"), 3);
    DUE.is("a 4th can't be", Due.orders(Due.duel(100, 80), "sing 1 times 4"), -3);
  }

  public static void main(String[] args) {
    beyond();
    dividedByNothing();
    onlyIfItMatters();
    longTests();
    lessAndMore();
    noneInForce();
    wordsOfAVerse();
    keyOfAnEarlierDuel();
    wakesOfASinger();
    holds();
    lastThatHolds();
    nearest();
    lullsWithout();
    tires();
    wakesByDay();
    asksOfAVerse();
    barred();
    runByTimes();
    whatSumsAre();
    wordsOfOrders();
    allAsItWas();
    keptAsItWas();
    lastDayInOrders();
    DUE.end("edges of promises 18 to 20, LAWS and ORDERS");
  }
}
