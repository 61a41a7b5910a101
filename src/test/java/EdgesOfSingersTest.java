/** Terms I and promises 1 to 9: the words that name an edge, each by itself. */
public final class EdgesOfSingersTest {
  private static final Due DUE = new Due();

  private static CradleDuel singers(int many) {
    CradleDuel x = new CradleDuel();
    for (int i = 0; i < many; i++) x.singer(100 + i, i, i % 2);
    return x;
  }

  private static CradleDuel verses(int many) {
    CradleDuel x = new CradleDuel();
    for (int i = 0; i < many; i++) x.verse(1 + i, i % 5);
    return x;
  }

  private static CradleDuel pieces(int many) {
    CradleDuel x = new CradleDuel();
    for (int i = 0; i < many; i++) x.piece(1 + i, i % 5, 9);
    return x;
  }

  private static void newHills() {
    DUE.says("1: Hills without singers.");
    CradleDuel x = new CradleDuel();
    for (int i = 0; i < 7; i++) DUE.is("new count(" + i + ")", x.count(i), 0);
    for (int i = 7; i < 12; i++) DUE.is("none REFUSED, count(" + i + ")", x.count(i), 0);
    DUE.is("status()", x.status(), 0);
    DUE.is("of(0, 0)", x.of(0, 0), -1);
    DUE.is("at(0, 0)", x.at(0, 0), -1);
    DUE.is("wakes(0)", x.wakes(0), -1);
    DUE.is("catching(0, 0)", x.catching(0, 0), -1);
    DUE.is("keep(0, 1, 0)", x.keep(0, 1, 0), -1);
    DUE.is("rule(0, 1)", x.rule(0, 1), -1000);
    DUE.is("saddle(0, 1, 0)", x.saddle(0, 1, 0), -1000);
    DUE.is("champions(0)", x.champions(0), 0);
    DUE.is("champions(1)", x.champions(1), 0);
    DUE.is("champions(2)", x.champions(2), -1);
    DUE.is("the first SINGER", x.singer(1, 1, 1), 0);
    DUE.is("another object has none", new CradleDuel().count(0), 0);
  }

  private static void constants() {
    DUE.says("constants: `NONE = -1`: There is none.", "constants: `NOTHING = -1000`: What is not there, where it could be below 0.");
    DUE.is("NONE", CradleDuel.NONE, -1);
    DUE.is("NOTHING", CradleDuel.NOTHING, -1000);
  }

  private static void singersAtMost() {
    DUE.says("I: SINGERS 0 .. 7 (8 at most)", "2: A SINGER: the number.", "2: -5.");
    CradleDuel x = new CradleDuel();
    for (int i = 0; i < 8; i++) DUE.is("SINGER " + i, x.singer(100 + i, i, i % 2), i);
    DUE.is("status", x.status(), 0);
    java.util.List<String> ahead = Due.look(x);
    DUE.refused(x, "the 9th", x.singer(1, 1, 1), -5);
    DUE.refused(x, "the 9th again", x.singer(0, 0, 0), -5);
    DUE.same("the 9th", ahead, Due.look(x));
    DUE.is("count(10)", x.count(10), 2);
    DUE.is("of(8, 0)", x.of(8, 0), -1);
  }

  private static void wakeOfASinger() {
    DUE.says("I: WAKE 0 .. 999", "2: -1;");
    DUE.range("WAKE", 0, 999, -1, wake -> new CradleDuel().singer(wake, 4, 1));
    CradleDuel x = new CradleDuel();
    x.singer(0, 4, 1);
    x.singer(999, 4, 1);
    DUE.is("WAKE 0", x.of(0, 0), 0);
    DUE.is("WAKE 999", x.of(1, 0), 999);
    DUE.refused(x, "WAKE 1000", x.singer(1000, 4, 1), -1);
    DUE.refused(x, "WAKE -1", x.singer(-1, 4, 1), -1);
    DUE.is("none came", x.count(0), 2);
    DUE.is("count(7)", x.count(7), 2);
  }

  private static void skillOfASinger() {
    DUE.says("I: SKILL 0 .. 9");
    DUE.range("SKILL", 0, 9, -1, skill -> new CradleDuel().singer(4, skill, 1));
    CradleDuel x = new CradleDuel();
    x.singer(4, 0, 1);
    x.singer(4, 9, 1);
    DUE.is("SKILL 0", x.of(0, 1), 0);
    DUE.is("SKILL 9", x.of(1, 1), 9);
    DUE.refused(x, "SKILL 10", x.singer(4, 10, 1), -1);
    DUE.is("none came", x.count(0), 2);
  }

  private static void clanOfASinger() {
    DUE.says("I: a CLAN 0 .. 1");
    DUE.range("CLAN", 0, 1, -1, clan -> new CradleDuel().singer(4, 4, clan));
    CradleDuel x = new CradleDuel();
    x.singer(4, 4, 0);
    x.singer(4, 4, 1);
    DUE.is("CLAN 0", x.of(0, 2), 0);
    DUE.is("CLAN 1", x.of(1, 2), 1);
    DUE.refused(x, "CLAN 2", x.singer(4, 4, 2), -1);
    DUE.is("none came", x.count(0), 2);
  }

  private static void singersAtFirst() {
    DUE.says("I: ASLEEP or not (at first), YAWNS (0 at first)");
    CradleDuel x = new CradleDuel();
    x.singer(0, 0, 0);
    x.singer(999, 9, 1);
    for (int i = 0; i < 2; i++) {
      DUE.is("ASLEEP", x.of(i, 3), 0);
      DUE.is("YAWNS", x.of(i, 4), 0);
    }
    // in the place of one who slept and yawned, gone by back()
    CradleDuel z = new CradleDuel();
    z.image(0);
    z.singer(900, 0, 0);
    z.singer(40, 0, 1);
    z.verse(50, 0);
    z.begin(0, 1, 1);
    z.sing(0);
    DUE.is("ASLEEP", z.of(1, 3), 1);
    DUE.is("YAWNS", z.of(1, 4), 1);
    z.back(0);
    z.singer(5, 5, 0);
    z.singer(5, 5, 1);
    DUE.is("ASLEEP", z.of(1, 3), 0);
    DUE.is("YAWNS", z.of(1, 4), 0);
  }

  private static void ofASinger() {
    DUE.says("3: Of a SINGER WAKE (what 0), SKILL (1), CLAN (2), ASLEEP (3: 1, 0), YAWNS (4).", "3: NONE.");
    CradleDuel x = singers(7);
    int[] due = {106, 6, 0, 0, 0};
    for (int what = 0; what < 5; what++) DUE.is("of(6, " + what + ")", x.of(6, what), due[what]);
    for (int what = 0; what < 5; what++) {
      DUE.is("of no such", x.of(7, what), -1);
      DUE.is("of no such", x.of(-1, what), -1);
    }
    DUE.range("SINGER", 0, 6, -1, singer -> x.of(singer, 0));
    DUE.range("what", 0, 4, -1, what -> x.of(0, what));
    DUE.is("of is no call that is REFUSED", x.status(), 0);
    DUE.is("count(7)", x.count(7), 0);
  }

  private static void versesAtMost() {
    DUE.says("I: VERSES 0 .. 9 (10 at most)", "4: A VERSE: its number.", "4: -5.");
    CradleDuel x = new CradleDuel();
    for (int i = 0; i < 10; i++) DUE.is("VERSE " + i, x.verse(1 + i, i % 5), i);
    java.util.List<String> ahead = Due.look(x);
    DUE.refused(x, "the 11th", x.verse(1, 1), -5);
    DUE.same("the 11th", ahead, Due.look(x));
    DUE.is("count(10)", x.count(10), 1);
    DUE.is("at(10, 0)", x.at(10, 0), -1);
  }

  private static void numbersOfAVerse() {
    DUE.says("I: STRONG 1 .. 99, a KEY 0 .. 4.", "4: -1;");
    DUE.range("STRONG", 1, 99, -1, strong -> new CradleDuel().verse(strong, 2));
    DUE.range("KEY", 0, 4, -1, key -> new CradleDuel().verse(2, key));
    CradleDuel x = new CradleDuel();
    DUE.refused(x, "STRONG 0", x.verse(0, 0), -1);
    DUE.refused(x, "KEY 5", x.verse(1, 5), -1);
    DUE.is("none came", x.count(1), 0);
    DUE.is("count(7)", x.count(7), 2);
  }

  private static void atAVerse() {
    DUE.says("5: STRONG (what 0), KEY (1) of a VERSE.", "5: NONE.");
    CradleDuel x = verses(9);
    DUE.is("at(8, 0)", x.at(8, 0), 9);
    DUE.is("at(8, 1)", x.at(8, 1), 3);
    DUE.range("VERSE", 0, 8, -1, verse -> x.at(verse, 0));
    DUE.range("VERSE", 0, 8, -1, verse -> x.at(verse, 1));
    DUE.range("what", 0, 1, -1, what -> x.at(0, what));
    DUE.is("of no VERSES", new CradleDuel().at(0, 0), -1);
    DUE.is("status", x.status(), 0);
  }

  private static void partsAtMost() {
    DUE.says("I: PARTS of verses 0 .. 9 (10 at most)", "6: A PART: its number.", "6: -5.");
    CradleDuel x = new CradleDuel();
    for (int i = 0; i < 10; i++) DUE.is("PART " + i, x.piece(1 + i, i % 5, 9), i);
    DUE.refused(x, "the 11th", x.piece(99, 1, 1), -5);
    DUE.is("count(2)", x.count(2), 10);
    DUE.is("count(10)", x.count(10), 1);
    DUE.is("the 11th is not there", x.made(1, -1), -1);
    DUE.is("the 10th is there", x.made(9, 0), 9);
  }

  private static void numbersOfAPart() {
    DUE.says("I: STRONG 1 .. 99, a KEY 0 .. 4, LONG 1 .. 9.", "6: -1;");
    DUE.range("STRONG", 1, 99, -1, strong -> new CradleDuel().piece(strong, 2, 2));
    DUE.range("KEY", 0, 4, -1, key -> new CradleDuel().piece(2, key, 2));
    DUE.range("LONG", 1, 9, -1, length -> new CradleDuel().piece(2, 2, length));
    CradleDuel x = new CradleDuel();
    DUE.refused(x, "STRONG 100", x.piece(100, 0, 1), -1);
    DUE.refused(x, "KEY -1", x.piece(1, -1, 1), -1);
    DUE.refused(x, "LONG 0", x.piece(1, 0, 0), -1);
    DUE.is("none came", x.count(2), 0);
    DUE.is("count(7)", x.count(7), 3);
  }

  private static void nobodyHearsAtFirst() {
    DUE.says("I: HEARING is told of pairs of unlike SINGERS, one way (none at first).");
    CradleDuel x = singers(8);
    for (int i = 0; i < 8; i++) {
      for (int j = 0; j < 8; j++) DUE.is("hears(" + i + ", " + j + ", 0)", x.hears(i, j, 0), i == j ? -1 : 0);
    }
    DUE.is("7 hears 0", x.hears(7, 0, 1), 0);
    DUE.is("0 does not hear 7", x.hears(0, 7, 0), 0);
    DUE.is("7 hears 0 still", x.hears(7, 0, 1), 1);
    DUE.is("7 does not hear 1", x.hears(7, 1, 0), 0);
    DUE.is("6 does not hear 0", x.hears(6, 0, 0), 0);
    CradleDuel y = new CradleDuel();
    y.image(0);
    for (int i = 0; i < 3; i++) y.singer(9, 9, 0);
    y.hears(1, 0, 1);
    y.hears(0, 1, 1);
    y.back(0);
    for (int i = 0; i < 3; i++) y.singer(9, 9, 0);
    DUE.is("new ones in their places don't", y.hears(1, 0, 0) + y.hears(0, 1, 0), 0);
  }

  private static void tellsWhatWas() {
    DUE.says("7: One HEARS another one (1), does not (0): what was.");
    CradleDuel x = singers(2);
    int[][] told = {{1, 0}, {1, 1}, {0, 1}, {0, 0}, {1, 0}, {0, 1}};
    for (int[] t : told) DUE.is("hears(0, 1, " + t[0] + ")", x.hears(0, 1, t[0]), t[1]);
    DUE.is("status", x.status(), 0);
    DUE.is("unlike SINGERS of one CLAN", singers(3).hears(0, 2, 1), 0);
    CradleDuel y = singers(8);
    for (int i = 1; i < 8; i++) y.hears(0, i, 1);
    y.hears(3, 1, 1);
    y.hears(0, 3, 0);
    for (int i = 1; i < 8; i++) DUE.is("all the others stay: " + i, y.hears(0, i, 1), i == 3 ? 0 : 1);
    for (int i = 1; i < 8; i++) {
      y.hears(0, i, 0);
      for (int j = 1; j < 8; j++) DUE.is("0 hears " + j, y.hears(0, j, j <= i ? 0 : 1), j <= i ? 0 : 1);
    }
    DUE.is("3 hears 1", y.hears(3, 1, 1), 1);
  }

  private static void hearsRefused() {
    DUE.says("7: -1 (alike ones, too); -2.");
    CradleDuel x = singers(3);
    x.hears(1, 2, 1);
    for (int i = -1; i < 9; i++) DUE.refused(x, "alike ones", x.hears(i, i, 1), -1);
    DUE.range("is", 0, 1, -1, is -> x.hears(0, 1, is));
    DUE.refused(x, "is 2", x.hears(1, 2, 2), -1);
    DUE.refused(x, "is -1", x.hears(1, 2, -1), -1);
    DUE.refused(x, "no such", x.hears(0, 3, 1), -2);
    DUE.refused(x, "no such", x.hears(3, 0, 1), -2);
    DUE.refused(x, "no such", x.hears(-1, 0, 1), -2);
    DUE.refused(x, "no such", x.hears(0, -1, 1), -2);
    DUE.far("one", -2, one -> x.hears(one, 0, 1));
    DUE.far("other", -2, other -> x.hears(0, other, 1));
    DUE.refused(x, "no such two", x.hears(3, 4, 1), -2);
    DUE.refused(x, "a number that can't be comes first", x.hears(3, 4, 2), -1);
    DUE.is("1 hears 2 still", x.hears(1, 2, 1), 1);
  }

  private static void cowsOfClans() {
    DUE.says("I: COWS of CLANS 0 .. 9,999 (100 at first).", "8: COWS of a CLAN: what they were.", "8: -1.");
    CradleDuel x = new CradleDuel();
    DUE.is("at first", x.cows(0, 9999), 100);
    DUE.is("at first", x.cows(1, 0), 100);
    DUE.is("9,999", x.cows(0, 5), 9999);
    DUE.is("0", x.cows(1, 6), 0);
    DUE.is("count(13)", x.count(13), 5);
    DUE.is("count(14)", x.count(14), 6);
    for (int clan = 0; clan < 2; clan++) {
      int of = clan;
      DUE.range("COWS", 0, 9999, -1, value -> new CradleDuel().cows(of, value));
    }
    DUE.range("CLAN", 0, 1, -1, clan -> new CradleDuel().cows(clan, 7));
    DUE.refused(x, "10,000", x.cows(0, 10000), -1);
    DUE.refused(x, "-1", x.cows(1, -1), -1);
    DUE.refused(x, "CLAN 2", x.cows(2, 7), -1);
    DUE.refused(x, "CLAN -1", x.cows(-1, 7), -1);
    DUE.is("COWS stay", x.count(13) * 10 + x.count(14), 56);
    DUE.is("count(7)", x.count(7), 4);
  }

  private static void termByTerm() {
    DUE.says("I: TERMS: 0 DAY 0 .. 999 (0 at first), 1 YAWN 1 .. 999 (30), 2 CATCH 0 .. 999 (50), 3 MOOD 0 .. 9 (0).",
        "9: A TERM: what it was.", "9: -1.");
    int[] least = {0, 1, 0, 0};
    int[] most = {999, 999, 999, 9};
    int[] first = {0, 30, 50, 0};
    CradleDuel x = new CradleDuel();
    for (int what = 0; what < 4; what++) {
      int term = what;
      DUE.range("TERM " + what, least[what], most[what], -1, value -> new CradleDuel().terms(term, value));
      DUE.is("at first", x.terms(what, most[what]), first[what]);
      DUE.is("the most", x.terms(what, least[what]), most[what]);
      DUE.is("the least", x.terms(what, 5), least[what]);
      DUE.refused(x, "beyond", x.terms(what, most[what] + 1), -1);
      DUE.refused(x, "below", x.terms(what, least[what] - 1), -1);
      DUE.is("it stays", x.count(15 + what), 5);
    }
    DUE.range("what", 0, 3, -1, what -> new CradleDuel().terms(what, 1));
    DUE.refused(x, "TERM 4", x.terms(4, 1), -1);
    DUE.refused(x, "TERM -1", x.terms(-1, 1), -1);
    for (int what = 0; what < 4; what++) DUE.is("all stay", x.count(15 + what), 5);
  }

  private static void firstOfTheRefusals() {
    DUE.says("I: REFUSED by: -1 a number that can't be;", "I: -5 no room;", "I: The first of these in that order.");
    CradleDuel x = singers(8);
    DUE.refused(x, "WAKE 1000 where there is no room", x.singer(1000, 0, 0), -1);
    DUE.refused(x, "SKILL 10 where there is no room", x.singer(0, 10, 0), -1);
    DUE.refused(x, "CLAN 2 where there is no room", x.singer(0, 0, 2), -1);
    CradleDuel y = verses(10);
    DUE.refused(y, "STRONG 100 where there is no room", y.verse(100, 0), -1);
    DUE.refused(y, "KEY 5 where there is no room", y.verse(1, 5), -1);
    CradleDuel z = pieces(10);
    DUE.refused(z, "STRONG 0 where there is no room", z.piece(0, 0, 1), -1);
    DUE.refused(z, "KEY -1 where there is no room", z.piece(1, -1, 1), -1);
    DUE.refused(z, "LONG 10 where there is no room", z.piece(1, 0, 10), -1);
    DUE.is("counted as -1 alone", z.count(7) * 10 + z.count(10), 30);
  }

  public static void main(String[] args) {
    newHills();
    constants();
    singersAtMost();
    wakeOfASinger();
    skillOfASinger();
    clanOfASinger();
    singersAtFirst();
    ofASinger();
    versesAtMost();
    numbersOfAVerse();
    atAVerse();
    partsAtMost();
    numbersOfAPart();
    nobodyHearsAtFirst();
    tellsWhatWas();
    hearsRefused();
    cowsOfClans();
    termByTerm();
    firstOfTheRefusals();
    DUE.end("edges of promises 1 to 9");
  }
}
