/** Promises 39 to 42: IMAGES, counts, the status. */
public final class ImagesTest {
  private static final Due DUE = new Due();

  private static void images() {
    CradleDuel x = Due.two(100, 80);
    DUE.is("image -1", x.image(-1), -1);
    DUE.is("image 2", x.image(2), -1);
    DUE.is("back -1", x.back(-1), -1);
    DUE.is("back 2", x.back(2), -1);
    DUE.is("not kept", x.back(0), -2);
    DUE.is("status", x.status(), -2);
    x.verse(20, 1);
    x.piece(1, 2, 3);
    x.hears(0, 1, 1);
    x.sight(0, 1, 2, 0, 0);
    Due.law(x, "lulls 9");
    x.force(0);
    x.begin(0, 1, 7);
    x.sing(0);
    DUE.is("image", x.image(1), 0);
    DUE.is("it can be undone still", x.count(5), 2);
    x.sing(0);
    x.part();
    x.dawn();
    x.singer(5, 5, 0);
    x.verse(30, 2);
    x.piece(4, 4, 4);
    x.hears(0, 1, 0);
    x.forget();
    Due.law(x, "lulls 8");
    x.force(1);
    x.cows(0, 1);
    x.terms(1, 3);
    x.terms(2, 4);
    x.terms(3, 5);
    DUE.is("image", x.image(0), 0);
    Due.put(x, "bars if");
    x.law();
    Due.put(x, "\1\1\1");
    x.row();
    Due.orders(x, "part");
    Due.put(x, "dawn");
    x.decade(3, 3);
    int wake = x.drawn(0, 0);
    x.dawn();
    DUE.is("back", x.back(1), 0);
    DUE.is("status", x.status(), 0);
    int[] due = {2, 1, 1, 1, 1, 0, 4};
    for (int i = 0; i < 7; i++) DUE.is("count(" + i + ")", x.count(i), due[i]);
    int[] more = {0, 100, 100, 0, 30, 50, 0};
    for (int i = 0; i < 7; i++) DUE.is("count(" + (12 + i) + ")", x.count(12 + i), more[i]);
    DUE.is("fault stays", x.fault(), -1);
    DUE.is("coughs stay", x.coughs(), 1);
    DUE.is("stopped stays", x.stopped(), 0);
    DUE.is("the DECADE stays", x.drawn(0, 0), wake);
    DUE.is("nothing to undo", x.undo(), -3);
    DUE.is("WAKE", x.of(1, 0), 71);
    DUE.is("turn", x.duel(4), 1);
    DUE.is("KEY", x.duel(5), 1);
    DUE.is("hearing", x.hears(0, 1, 1), 1);
    DUE.is("LAW", x.asks(0, 0), 9);
    DUE.is("another LAW in its place", Due.law(x, "lulls 7"), 1);
    DUE.is("back", x.back(0), 0);
    DUE.is("SINGERS", x.count(0), 3);
    DUE.is("VERSES", x.count(1), 2);
    DUE.is("LAW in FORCE", x.count(12), 1);
    DUE.is("no DUEL", x.duel(0), -1);
    x.begin(0, 1, 1);
    DUE.is("the LAW of the IMAGE", x.asks(0, 0), 8);
    DUE.is("back", x.back(1), 0);
    DUE.is("IMAGES stay", x.back(1), 0);
    DUE.is("WAKE", x.of(1, 0), 71);
    DUE.is("a new SINGER comes clean", x.singer(3, 3, 1), 2);
    DUE.is("hears nobody", x.hears(2, 0, 0), 0);
  }

  private static void partsAndSights() {
    CradleDuel x = Due.two(100, 80);
    x.verse(30, 1);
    x.piece(5, 1, 1);
    x.piece(6, 1, 1);
    x.sight(0, 0, 0, 0, 1);
    x.image(0);
    x.image(1);
    x.forget();
    x.sight(0, 1, 5, 1, 0);
    DUE.is("PARTS", x.made(2, -1), 14);
    x.back(0);
    DUE.is("SIGHTS", x.fits(0, 1), 30);
    x.back(1);
    DUE.is("SIGHTS", x.fits(0, 1), 30);
    // hills that were empty in the IMAGE, then full of other things
    CradleDuel z = new CradleDuel();
    z.image(0);
    z.singer(9, 9, 1);
    z.verse(9, 1);
    z.piece(9, 1, 9);
    z.image(1);
    z.back(0);
    z.singer(8, 8, 0);
    z.verse(8, 2);
    z.piece(8, 2, 8);
    z.piece(8, 3, 1);
    DUE.is("no neighbours", z.made(9, -1), 16);
    z.back(1);
    DUE.is("one PART", z.made(8, -1), -1);
    DUE.is("one PART", z.made(9, -1), 9);
    z.piece(1, 1, 1);
    DUE.is("neighbours", z.made(10, -1), 13);
    z.singer(9, 9, 0);
    z.image(0);
    for (int i = 0; i < 6; i++) Due.law(z, "lulls " + (i + 1));
    z.image(1);
    z.back(0);
    DUE.is("no LAWS", z.count(4), 0);
    for (int i = 0; i < 6; i++) Due.law(z, "lulls 9");
    z.back(1);
    z.begin(0, 1, 1);
    for (int i = 0; i < 6; i++) {
      z.force(i);
      DUE.is("LAW " + i, z.asks(0, 0), i + 1);
    }
    int[] due = {9, 9, 1};
    for (int i = 0; i < 3; i++) DUE.is("SINGER", z.of(0, i), due[i]);
    DUE.is("VERSE", z.at(0, 0) * 10 + z.at(0, 1), 91);
  }

  private static void counts() {
    CradleDuel x = new CradleDuel();
    x.image(0);
    x.singer(1000, 0, 0);
    x.hears(0, 1, 1);
    x.sing(0);
    x.part();
    x.undo();
    x.dawn();
    for (int i = 0; i < 11; i++) x.verse(1, 1);
    x.row();
    x.row();
    x.law();
    x.made(0, 0);
    x.of(0, 0);
    x.game(0, 0);
    x.feed(0, 0, 0, 0, 0);
    x.end(99);
    int[] due = {1, 2, 2, 1, 3};
    for (int i = 0; i < 5; i++) DUE.is("count(" + (7 + i) + ")", x.count(7 + i), due[i]);
    x.back(0);
    for (int i = 0; i < 5; i++) DUE.is("IMAGES do not keep that", x.count(7 + i), due[i]);
    DUE.is("count(19)", x.count(19), -1);
    DUE.is("count(-1)", x.count(-1), -1);
    DUE.is("count far away", x.count(Integer.MAX_VALUE), -1);
    DUE.is("count(6)", x.count(6), 20);
  }

  private static void statuses() {
    CradleDuel x = Due.two(50, 50);
    int[] bad = {
      x.singer(-1, 0, 0), x.status(), x.verse(0, 0), x.status(), x.piece(0, 0, 0), x.status(), x.hears(0, 0, 0), x.status(),
      x.cows(2, 0), x.status(), x.terms(4, 0), x.status(), x.row(), x.status(), x.law(), x.status(), x.orders(), x.status(),
      x.force(0), x.status(), x.begin(0, 1, 0), x.status(), x.sing(0), x.status(), x.part(), x.status(), x.undo(), x.status(),
      x.sight(0, 0, 0, 0, 0), x.status(), x.decade(0, 0), x.status(), x.image(2), x.status(), x.back(0), x.status()};
    int[] due = {-1, -1, -1, -1, -1, -1, -6, -6, -6, -2, -1, -2, -3, -3, -2, -1, -1, -2};
    for (int i = 0; i < due.length; i++) {
      DUE.is("REFUSED " + i, bad[2 * i], due[i]);
      DUE.is("status " + i, bad[2 * i + 1], due[i]);
    }
    x.of(0, 0);
    x.feed(0, 0, 0, 0, 0);
    x.end(0);
    x.forget();
    x.count(0);
    x.saddle(0, 1, 0);
    DUE.is("others leave it", x.status(), -2);
    int[] good = {
      x.dawn(), x.status(), x.verse(5, 0), x.status(), x.piece(1, 0, 1), x.status(), x.hears(0, 1, 0), x.status(), x.force(-1),
      x.status(), x.begin(0, 1, 1), x.status(), x.sing(0), x.status(), x.undo(), x.status(), x.part(), x.status(), x.image(0),
      x.status(), x.back(0), x.status(), x.sight(0, 0, 0, 0, 0), x.status(), x.cows(0, 0), x.status(), x.terms(3, 0), x.status()};
    for (int i = 1; i < good.length; i += 2) DUE.is("status " + i, good[i], 0);
    x.dawn();
    x.terms(0, 999);
    DUE.is("dawn", x.dawn(), -3);
    DUE.is("status", x.status(), -3);
  }

  public static void main(String[] args) {
    images();
    partsAndSights();
    counts();
    statuses();
    DUE.end("promises 39 to 42");
  }
}
