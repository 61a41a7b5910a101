import java.util.ArrayList;
import java.util.List;

/** Terms IV, as all is gone back to, and promises 39 to 42: the words that name an edge, each by itself. */
public final class EdgesOfImagesTest {
  private static final Due DUE = new Due();

  // of each thing something, in a DUEL
  private static CradleDuel full() {
    CradleDuel x = new CradleDuel();
    x.singer(300, 3, 0);
    x.singer(200, 5, 1);
    x.singer(10, 1, 0);
    x.singer(20, 2, 1);
    x.verse(20, 1);
    x.verse(40, 2);
    x.piece(7, 1, 2);
    x.piece(8, 1, 3);
    x.hears(1, 0, 1);
    x.hears(2, 1, 1);
    x.cows(0, 60);
    x.cows(1, 70);
    x.terms(0, 8);
    x.terms(1, 9);
    x.terms(2, 400);
    x.terms(3, 7);
    Due.law(x, "lulls 20 + mood");
    Due.law(x, "lulls 30;tires 2;wakes 50");
    x.force(1);
    x.sight(0, 0, 1, 0, 0);
    x.sight(1, 1, 0, 0, 0);
    x.begin(2, 3, 5);
    x.sing(0);
    x.begin(0, 1, 6);
    x.sing(1);
    return x;
  }

  // all of it is another then
  private static void change(CradleDuel x) {
    x.part();
    x.dawn();
    x.singer(9, 9, 0);
    x.verse(99, 4);
    x.piece(99, 4, 1);
    x.hears(1, 0, 0);
    x.hears(2, 1, 0);
    x.hears(3, 0, 1);
    x.cows(0, 1);
    x.cows(1, 2);
    for (int term = 0; term < 4; term++) x.terms(term, 3);
    x.forget();
    x.sight(1, 0, 11, 1, 1);
    Due.law(x, "lulls 1;wakes 1");
    x.force(2);
    x.begin(1, 2, 77);
    x.sing(2);
  }

  // what IMAGES keep of a look
  private static List<String> kept(CradleDuel x) {
    List<String> all = new ArrayList<>();
    for (String line : Due.look(x)) {
      boolean aside = line.startsWith("count(5)") || line.startsWith("count(6)") || line.startsWith("drawn") || line.startsWith("fault")
          || line.startsWith("stopped") || line.startsWith("coughs");
      if (!aside) all.add(line);
    }
    return all;
  }

  private static void whichImages() {
    DUE.says("39: IMAGE k is kept: 0; -1.", "40: -1; -2 it was not kept.");
    DUE.range("IMAGE", 0, 1, -1, k -> new CradleDuel().image(k));
    CradleDuel x = new CradleDuel();
    DUE.refused(x, "image(2)", x.image(2), -1);
    DUE.refused(x, "image(-1)", x.image(-1), -1);
    DUE.refused(x, "back(2)", x.back(2), -1);
    DUE.refused(x, "back(-1)", x.back(-1), -1);
    DUE.far("IMAGE", -1, k -> x.back(k));
    DUE.refused(x, "0 was not kept", x.back(0), -2);
    DUE.refused(x, "1 was not kept", x.back(1), -2);
    DUE.is("keep 1", x.image(1), 0);
    DUE.is("status", x.status(), 0);
    DUE.refused(x, "0 was not kept still", x.back(0), -2);
    DUE.is("1 was", x.back(1), 0);
    DUE.is("status", x.status(), 0);
    DUE.is("keep 0", x.image(0), 0);
    DUE.is("0 was", x.back(0), 0);
    DUE.is("count(8)", x.count(8), 3);
  }

  private static void refusedBack() {
    DUE.says("40: -2 it was not kept.");
    CradleDuel x = full();
    List<String> ahead = Due.look(x);
    DUE.refused(x, "back", x.back(0), -2);
    DUE.refused(x, "back", x.back(2), -1);
    DUE.refused(x, "image", x.image(2), -1);
    DUE.same("back", ahead, Due.look(x));
    DUE.is("it can be undone", x.undo(), 1);
  }

  private static void asItWasThen() {
    DUE.says("IV: IMAGES 0, 1 keep all but", "IV: BACK to one all that it keeps is as it was then (IMAGES stay).", "40: BACK to IMAGE k: 0.");
    for (int k = 0; k < 2; k++) {
      CradleDuel x = full();
      List<String> ahead = kept(x);
      DUE.is("image", x.image(k), 0);
      change(x);
      DUE.is("back", x.back(k), 0);
      DUE.same("back", ahead, kept(x));
      DUE.is("HEARING", x.hears(1, 0, 1) * 100 + x.hears(2, 1, 1) * 10 + x.hears(3, 0, 0), 110);
      change(x);
      DUE.is("IMAGES stay", x.back(k), 0);
      DUE.is("IMAGES stay", x.count(0) * 100 + x.count(13), 465);
    }
  }

  private static void twoImages() {
    DUE.says("IV: (IMAGES stay).");
    CradleDuel x = new CradleDuel();
    x.image(0);
    x.singer(1, 1, 0);
    x.image(1);
    x.singer(2, 2, 1);
    x.back(0);
    DUE.is("none", x.count(0), 0);
    x.back(1);
    DUE.is("one", x.count(0), 1);
    x.back(0);
    DUE.is("none again", x.count(0), 0);
    x.singer(7, 7, 1);
    x.singer(8, 8, 1);
    DUE.is("the place of the one that was", x.of(0, 0), 7);
    x.back(1);
    DUE.is("the one that was", x.of(0, 0) * 10 + x.count(0), 11);
    x.image(0);
    x.back(0);
    DUE.is("kept anew", x.count(0), 1);
    x.singer(3, 3, 1);
    x.image(1);
    x.back(0);
    DUE.is("one", x.count(0), 1);
    x.back(1);
    DUE.is("two", x.count(0), 2);
  }

  private static void whatIsNotKept() {
    DUE.says("IV: the TAPE, FAULT, COUGHS, where ORDERS stopped, what can be undone (nothing, behind back()), the latest DECADE");
    CradleDuel x = full();
    x.part();
    x.image(0);
    Due.put(x, "\0\0\0");
    x.row();
    x.decade(3, 5);
    int wake = x.drawn(0, 0);
    int cows = x.drawn(0, 1);
    Due.orders(x, "dawn;sing 0");
    Due.law(x, "lulls ?");
    Due.put(x, "dawn");
    x.dawn();
    x.dawn();
    DUE.is("two can be undone", x.count(5) >= 2 ? 1 : 0, 1);
    DUE.is("back", x.back(0), 0);
    DUE.is("the TAPE", x.count(6), 4);
    DUE.is("FAULT", x.fault(), 6);
    DUE.is("COUGHS", x.coughs(), 2);
    DUE.is("where ORDERS stopped", x.stopped(), 1);
    DUE.is("nothing can be undone", x.count(5), 0);
    DUE.refused(x, "nothing can be undone", x.undo(), -3);
    DUE.is("the latest DECADE", x.drawn(0, 0) * 10000 + x.drawn(0, 1), wake * 10000 + cows);
    DUE.is("the TAPE is as it was", x.orders(), 1);
    DUE.is("what came behind can be undone", x.undo(), 3);
    CradleDuel y = Due.two(50, 50);
    y.verse(1, 1);
    y.image(0);
    y.singer(9, 9, 1);
    y.decade(1, 1);
    y.back(0);
    DUE.is("a SINGER of the latest DECADE", Math.min(0, y.drawn(2, 0)), 0);
    CradleDuel z = Due.two(50, 50);
    z.dawn();
    z.image(0);
    DUE.is("image() leaves what can be undone", z.undo(), 3);
  }

  private static void refusalsAreNotKept() {
    DUE.says("41: 7 .. 11 how many calls were REFUSED by -1, -2, -3, -5, -6 (IMAGES do not keep that)");
    CradleDuel x = new CradleDuel();
    x.image(0);
    int[] due = new int[5];
    for (int i = 1; i <= 3; i++) {
      x.verse(0, 0);
      due[0]++;
      for (int k = 0; k < 2; k++) x.force(7);
      due[1] += 2;
      for (int k = 0; k < 3; k++) x.part();
      due[2] += 3;
      x.row();
      due[4]++;
      for (int k = 0; k < 12; k++) x.verse(1, 1);
      due[3] += 2;
      for (int k = 0; k < 5; k++) DUE.is("count(" + (7 + k) + ")", x.count(7 + k), due[k]);
      x.back(0);
      for (int k = 0; k < 5; k++) DUE.is("behind back(), count(" + (7 + k) + ")", x.count(7 + k), due[k]);
    }
  }

  private static void counts() {
    DUE.says("41: 0 SINGERS, 1 VERSES, 2 PARTS, 3 SIGHTS, 4 LAWS, 5 how many can be undone, 6 bytes of the TAPE", "41: 12 the LAW in FORCE, 13, 14 COWS of CLANS 0, 1, 15 .. 18 TERMS 0 .. 3.");
    CradleDuel x = full();
    x.piece(1, 1, 1);
    Due.put(x, "abc");
    int[] due = {4, 2, 3, 2, 2, 4, 3, 0, 0, 0, 0, 0, 1, 65, 65, 8, 9, 400, 7};
    for (int what = 0; what < due.length; what++) DUE.is("count(" + what + ")", x.count(what), due[what]);
    DUE.says("41: NONE for others.");
    DUE.is("count(-1)", x.count(-1), -1);
    DUE.is("count(19)", x.count(19), -1);
    DUE.far("what", -1, what -> x.count(what));
    DUE.is("status", x.status(), 0);
  }

  private static void statusOfEach() {
    DUE.says("42: What the latest call of singer, verse, piece, hears, cows, terms, row, law, orders, force, begin, sing, part, dawn, undo, sight, decade, image,"
        + " back was REFUSED by; 0 if it was not, or ahead of any.");
    CradleDuel x = full();
    x.part();
    DUE.is("ahead of any", new CradleDuel().status(), 0);
    refusedThenNot(x, "singer", x.singer(-1, 0, 0), -1, () -> x.singer(1, 1, 1));
    refusedThenNot(x, "verse", x.verse(0, 0), -1, () -> x.verse(1, 1));
    refusedThenNot(x, "piece", x.piece(0, 0, 0), -1, () -> x.piece(1, 1, 1));
    refusedThenNot(x, "hears", x.hears(0, 9, 0), -2, () -> x.hears(0, 1, 0));
    refusedThenNot(x, "cows", x.cows(0, -1), -1, () -> x.cows(0, 5));
    refusedThenNot(x, "terms", x.terms(0, -1), -1, () -> x.terms(0, 5));
    refusedThenNot(x, "row", x.row(), -6, () -> { Due.put(x, "\0\0"); return x.row(); });
    refusedThenNot(x, "law", x.law(), -6, () -> Due.law(x, "bars if 1 = 2"));
    refusedThenNot(x, "orders", x.orders(), -6, () -> Due.orders(x, "dawn"));
    refusedThenNot(x, "orders", Due.orders(x, "part"), -3, () -> Due.orders(x, "dawn if 1 = 2"));
    refusedThenNot(x, "force", x.force(9), -2, () -> x.force(-1) - x.force(-1));
    refusedThenNot(x, "begin", x.begin(0, 9, 1), -2, () -> x.begin(0, 1, 1));
    refusedThenNot(x, "sing", x.sing(9), -2, () -> x.sing(0));
    refusedThenNot(x, "dawn", x.dawn(), -3, () -> x.part());
    refusedThenNot(x, "part", x.part(), -3, () -> x.dawn());
    refusedThenNot(x, "sight", x.sight(0, 0, 12, 0, 0), -1, () -> x.sight(0, 0, 0, 0, 0));
    refusedThenNot(x, "decade", x.decade(0, 0), -1, () -> x.decade(0, 1));
    refusedThenNot(x, "image", x.image(9), -1, () -> x.image(0));
    refusedThenNot(x, "back", x.back(1), -2, () -> x.back(0));
    refusedThenNot(x, "undo", x.undo(), -3, () -> { x.dawn(); return x.undo(); });
  }

  private interface Call { int run(); }

  private static void refusedThenNot(CradleDuel x, String name, int got, int want, Call good) {
    DUE.refused(x, name, got, want);
    others(x);
    DUE.is("others leave it behind " + name, x.status(), want);
    DUE.is(name + " is not REFUSED", Math.min(0, good.run()), 0);
    DUE.is("status behind " + name, x.status(), 0);
  }

  // all that tell no status, with numbers that can't be among them
  private static void others(CradleDuel x) {
    x.of(-1, 0);
    x.at(-1, 0);
    x.feed(1, 1, 1, 1, 1);
    x.end(500);
    x.end(0);
    x.asks(0, 9);
    x.wakes(-1);
    x.game(0, 0);
    x.rule(0, 0);
    x.made(0, 0);
    x.fits(-1, 0);
    x.drawn(0, 9);
    x.count(99);
  }

  private static void othersLeaveIt() {
    DUE.says("42: 0 if it was not");
    CradleDuel x = full();
    for (int round = 0; round < 2; round++) {
      int due = round == 0 ? 0 : -1;
      if (round == 1) x.verse(0, 0);
      others(x);
      x.coughs();
      x.fault();
      x.stopped();
      x.duel(9);
      x.saddle(0, 0, 0);
      x.champions(-1);
      x.forget();
      x.catching(-1, 0);
      x.keep(0, 0, 0);
      x.status();
      DUE.is("status", x.status(), due);
      DUE.is("none counted", x.count(7) + x.count(8) + x.count(9) + x.count(10) + x.count(11), -due);
    }
  }

  private static void manyCalls() {
    DUE.says("41: 5 how many can be undone");
    CradleDuel x = new CradleDuel();
    for (int i = 0; i < 255; i++) {
      DUE.is("dawn", x.dawn(), 0);
      DUE.is("undo", x.undo(), 3);
    }
    DUE.is("the 511th call", x.dawn(), 0);
    DUE.is("the 512th call", x.count(5), 1);
  }

  public static void main(String[] args) {
    whichImages();
    refusedBack();
    asItWasThen();
    twoImages();
    whatIsNotKept();
    refusalsAreNotKept();
    counts();
    statusOfEach();
    othersLeaveIt();
    manyCalls();
    DUE.end("edges of promises 39 to 42");
  }
}
