/** Promises 37 and 38: DECADES by DRAWS. */
public final class DecadesTest {
  private static final Due DUE = new Due();

  private static void refused() {
    CradleDuel x = new CradleDuel();
    DUE.is("nothing", x.decade(0, 1), -3);
    DUE.is("seed", x.decade(-1, 1), -1);
    DUE.is("seed", x.decade(1000001, 1), -1);
    DUE.is("n 0", x.decade(0, 0), -1);
    DUE.is("n 61", x.decade(0, 61), -1);
    x.singer(100, 1, 0);
    x.verse(10, 1);
    DUE.is("no SINGER of CLAN 1", x.decade(0, 1), -3);
    DUE.is("drawn of none", x.drawn(0, 0), -1);
    DUE.is("drawn of none", x.drawn(0, 1), -1);
    DUE.is("drawn of none", x.drawn(0, 2), -1);
    CradleDuel z = new CradleDuel();
    z.singer(100, 1, 1);
    z.verse(10, 1);
    DUE.is("no SINGER of CLAN 0", z.decade(0, 1), -3);
    CradleDuel y = Due.two(100, 100);
    DUE.is("no VERSES", y.decade(0, 1), -3);
    DUE.is("status", y.status(), -3);
    y.verse(1, 1);
    DUE.is("edges", y.decade(1000000, 60) < 0 ? 1 : 0, 0);
    DUE.is("edges", y.decade(0, 1) < 0 ? 1 : 0, 0);
  }

  private static int s;

  private static int draw(int m) {
    s = (int) ((s * 1103L + 12345) % 1000003);
    return s % m;
  }

  // each one sleeps by the first VERSE, so that the DRAWS can be followed by hand
  private static void draws() {
    CradleDuel x = Due.two(100, 100);
    x.singer(100, 1, 1);
    x.singer(100, 1, 1);
    x.verse(10, 1);
    x.verse(11, 1);
    x.verse(12, 1);
    DUE.inForce(x, "lulls 999;tires 0;wakes 50;bars if strong = 11");
    s = 77;
    int[] lost = new int[4];
    int[] wake = {100, 100, 100, 100};
    int won = 0;
    int cows = 100;
    for (int day = 0; day < 9; day++) {
      draw(1);
      int second = 1 + draw(3);
      int stake = draw(20) + 1;
      if (wake[0] > 0 && wake[second] > 0) {
        draw(2);
        wake[second] = 0;
        lost[second]++;
        won++;
        cows += stake;
      }
      for (int i = 0; i < 4; i++) wake[i] += 50;
    }
    DUE.is("decade", x.decade(77, 9), won);
    DUE.is("won", won, 9);
    for (int i = 0; i < 4; i++) {
      DUE.is("WAKE", x.drawn(i, 0), wake[i]);
      DUE.is("lost", x.drawn(i, 2), lost[i]);
    }
    DUE.is("COWS", x.drawn(0, 1), cows);
    DUE.is("COWS", x.drawn(1, 1), Math.max(0, 200 - cows));
    DUE.is("no CLAN 2", x.drawn(2, 1), -1);
    DUE.is("no SINGER 4", x.drawn(4, 0), -1);
    DUE.is("no SINGER 4", x.drawn(4, 2), -1);
    DUE.is("what 3", x.drawn(0, 3), -1);
    DUE.is("on paper", x.of(0, 0), 100);
    DUE.is("on paper", x.count(13), 100);
    DUE.is("on paper", x.count(15), 0);
    x.singer(1, 1, 1);
    DUE.is("a SINGER who came later", x.drawn(4, 0), -1);
    DUE.is("REFUSED", x.decade(1, 0), -1);
    DUE.is("the latest stays", x.drawn(0, 0), wake[0]);
  }

  private static void edges() {
    CradleDuel x = Due.two(10, 10);
    x.verse(10, 1);
    x.image(0);
    x.terms(0, 998);
    DUE.inForce(x, "wakes day - 900;lulls 0;tires 0");
    DUE.is("ends behind DAY 999", x.decade(5, 60), 0);
    DUE.is("one DAWN", x.drawn(0, 0), 109);
    x.terms(0, 999);
    DUE.inForce(x, "lulls 999");
    DUE.is("its DUEL is sung", x.decade(5, 60), 1);
    DUE.is("no DAWN", x.drawn(1, 0), 0);
    DUE.is("lost", x.drawn(1, 2), 1);
    x.terms(0, 0);
    DUE.inForce(x, "wakes 0;lulls 999;bars if skill = 5");
    DUE.is("WAKE 0 has no DUEL", x.decade(5, 60), 1);
    DUE.is("lost", x.drawn(1, 2), 1);
    DUE.inForce(x, "lulls 0 if skill = 3;lulls 999 if skill = 5;wakes 1");
    DUE.is("the other one wins", x.decade(5, 3), 0);
    DUE.is("lost", x.drawn(0, 2), 3);
    DUE.is("lost", x.drawn(1, 2), 0);
    DUE.is("WAKE", x.drawn(0, 0), 1);
    x.back(0);
    DUE.inForce(x, "lulls 0;lulls 999 if hour = 11 and skill = 5;tires 0;wakes 0");
    DUE.is("the 24th VERSE", x.decade(5, 1), 0);
    DUE.is("lost", x.drawn(0, 2), 1);
    DUE.is("WAKE 0 of the first: no DUEL", x.decade(5, 9), 0);
    DUE.is("lost once", x.drawn(0, 2), 1);
    DUE.is("WAKE", x.drawn(1, 0), 10);
    DUE.inForce(x, "bars;wakes 1");
    DUE.is("all BARRED: DRAWS", x.decade(5, 3), 0);
    DUE.is("WAKE", x.drawn(0, 0), 13);
    x.force(-1);
    x.begin(0, 1, 5);
    DUE.is("a DUEL is aside", x.decade(5, 3) < 0 ? 1 : 0, 0);
    DUE.is("it stays", x.duel(2), 5);
    DUE.is("nothing to undo came", x.count(5), 1);
  }

  public static void main(String[] args) {
    refused();
    draws();
    edges();
    DUE.end("promises 37 and 38");
  }
}
