import java.lang.management.ManagementFactory;

/** The dearest calls, 512 of each on one object: they must end soon, and make next to nothing. */
public final class RoomTest {
  private static final int CALLS = 512;
  // 7.3 million fields and elements are the whole room of a run; one of them is 4 bytes here at least
  private static final long MOST_BYTES = 2_000_000;

  private static int wrong = 0;

  private interface Call { int run(CradleDuel x, int i); }

  private static CradleDuel full() {
    CradleDuel x = new CradleDuel();
    for (int i = 0; i < 8; i++) x.singer(990 - i, i, i % 2);
    for (int i = 0; i < 10; i++) {
      x.verse(5 + i, i % 5);
      x.piece(5 + i, i % 5, 1);
    }
    for (int i = 0; i < 8; i++) for (int j = 0; j < 8; j++) x.hears(i, j, 1);
    for (int i = 0; i < 8; i++) x.sight(i, i, i, 0, 0);
    x.terms(2, 999);
    // 12 CLAUSES, as many PARTS as there may be
    Due.law(x, "lulls strong + wake % 2 * 0 + hour;lulls strong + 1 + wake % 3 if [wake + 1] / 7 = 0;tires 0 + 0 * key;wakes 1 + day;"
        + "lulls 2 if wake < 0;lulls 3 if wake < 0;lulls 3 if wake < 0;lulls 3 if wake < 0;bars if wake < 0;bars if wake < 0;"
        + "bars if wake < 0;bars if wake < 0");
    x.force(0);
    return x;
  }

  private static void dear(String name, CradleDuel x, Call call) {
    com.sun.management.ThreadMXBean bean = (com.sun.management.ThreadMXBean) ManagementFactory.getThreadMXBean();
    long self = Thread.currentThread().getId();
    for (int i = 0; i < 3; i++) call.run(x, i);
    long before = bean.getThreadAllocatedBytes(self);
    long start = System.nanoTime();
    for (int i = 0; i < CALLS; i++) call.run(x, i);
    long millis = (System.nanoTime() - start) / 1_000_000;
    long bytes = bean.getThreadAllocatedBytes(self) - before;
    System.out.println(name + ": " + bytes + " bytes, " + millis + " ms for " + CALLS);
    if (bytes > MOST_BYTES || millis > 60_000) wrong++;
  }

  public static void main(String[] args) {
    CradleDuel idle = full();
    CradleDuel duel = full();
    duel.begin(0, 1, 9);
    if (idle.count(12) != 0) wrong++;
    dear("new", idle, (x, i) -> i < 60 ? new CradleDuel().status() : 0);
    dear("game", duel, (x, i) -> x.game(4, i % 3));
    dear("saddle", idle, (x, i) -> x.saddle(0, 1, i % 4));
    dear("rule", idle, (x, i) -> x.rule(0, 1));
    dear("champions", idle, (x, i) -> x.champions(i % 10));
    dear("made", idle, (x, i) -> x.made(36, i % 4));
    dear("fits", idle, (x, i) -> x.fits(i % 10, i % 11));
    dear("catching", idle, (x, i) -> x.catching(i % 8, i % 2));
    dear("keep", idle, (x, i) -> x.keep(i % 8, (i + 1) % 8, i % 2));
    dear("decade", idle, (x, i) -> x.decade(i, 60));
    dear("image and back", idle, (x, i) -> x.image(i % 2) + x.back(i % 2));
    dear("orders", full(), (x, i) -> Due.orders(x, "begin 0 with 1 for 5;sing done % 10 times 20;part;dawn if day < 900;begin 2 with 3 for 1;sing 1 times 20;part"));
    dear("law", idle, (x, i) -> x.back(0) + Due.law(x, "lulls 1;lulls 2;lulls 3;lulls 4;tires 5;wakes 6;bars if wake < 0"));
    if (wrong != 0) {
      System.out.println(wrong + " take too much");
      System.exit(1);
    }
  }
}
