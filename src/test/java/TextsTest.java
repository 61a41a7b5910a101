/** Promises 10 to 17: the TAPE, rows, and both languages as they are read. */
public final class TextsTest {
  private static final Due DUE = new Due();

  private static String times(String s, int n) {
    StringBuilder b = new StringBuilder();
    for (int i = 0; i < n; i++) b.append(s);
    return b.toString();
  }

  private static void tape() {
    CradleDuel x = new CradleDuel();
    for (int i = 1; i <= 20; i++) DUE.is("feed", x.feed(i, -1, 0, 1 << 31, 7), 20 * i);
    DUE.is("feed beyond", x.feed(1, 2, 3, 4, 5), -1);
    DUE.is("it stays", x.count(6), 400);
    DUE.is("feed is not REFUSED", x.count(7), 0);
    DUE.is("end beyond", x.end(401), -1);
    DUE.is("end below", x.end(-1), -1);
    DUE.is("end whole", x.end(400), 400);
    DUE.is("end", x.end(381), 381);
    DUE.is("feed beyond by one", x.feed(1, 2, 3, 4, 5), -1);
    DUE.is("end", x.end(380), 380);
    DUE.is("feed to the brim", x.feed(1, 2, 3, 4, 5), 400);
    DUE.is("end", x.end(0), 0);
    DUE.is("end again", x.end(1), -1);
    DUE.is("status", x.status(), 0);
  }

  private static void rows() {
    CradleDuel x = new CradleDuel();
    DUE.is("row of nothing", x.row(), -6);
    DUE.is("status", x.status(), -6);
    // the highest byte comes first: 99 4, 1 0, 100 0, 1 5, 0 0, 255 255, 7 3
    x.feed(99 << 24 | 4 << 16 | 1 << 8, 100 << 24 | 1 << 8 | 5, 0xffff, 7 << 24 | 3 << 16 | 9 << 8, 0);
    x.end(15);
    DUE.is("row", x.row(), 3);
    DUE.is("coughs", x.coughs(), 5);
    DUE.is("TAPE", x.count(6), 0);
    int[][] due = {{99, 4}, {1, 0}, {7, 3}};
    for (int i = 0; i < 3; i++) {
      DUE.is("STRONG", x.at(i, 0), due[i][0]);
      DUE.is("KEY", x.at(i, 1), due[i][1]);
    }
    DUE.is("row REFUSED", x.row(), -6);
    DUE.is("coughs stay", x.coughs(), 5);
    for (int i = 0; i < 6; i++) x.verse(1, 1);
    Due.put(x, "\5\1\6\1\7\1");
    DUE.is("one has room", x.row(), 1);
    DUE.is("coughs", x.coughs(), 2);
    DUE.is("count(1)", x.count(1), 10);
    Due.put(x, "\5");
    DUE.is("a row of a half", x.row(), 0);
    DUE.is("coughs", x.coughs(), 1);
    DUE.is("status", x.status(), 0);
    CradleDuel y = new CradleDuel();
    Due.put(y, "\5\1\6\2");
    DUE.is("whole pairs alone", y.row(), 2);
    DUE.is("coughs", y.coughs(), 0);
    DUE.is("the last one's KEY", y.at(1, 1), 2);
  }

  // what stood behind the TAPE's end is no part of the last TOKEN
  private static void cutTokens() {
    CradleDuel x = Due.two(300, 200);
    x.verse(20, 0);
    x.begin(0, 1, 1);
    Due.put(x, "lulls 12;bars");
    x.end(7);
    DUE.is("lulls 1", x.force(x.law()), -1);
    DUE.is("lulls 1", x.asks(0, 0), 1);
    Due.put(x, "lulls 1 if");
    x.end(9);
    DUE.is("i, not if", x.law(), -6);
    DUE.is("fault", x.fault(), 8);
    DUE.lawFaults(x, "lulls 1 ifz 1 = 1", 8);
    DUE.lawFaults(x, "lulls 1 ifa 1 = 1", 8);
    DUE.lawFaults(x, "lulls 1 if 1 = 1 zor 1 = 1", 17);
  }

  private static void lawFaults() {
    CradleDuel x = new CradleDuel();
    DUE.lawFaults(x, "", 0);
    DUE.lawFaults(x, "     ", 5);
    DUE.lawFaults(x, "lulls", 5);
    DUE.lawFaults(x, "lulls   ", 8);
    DUE.lawFaults(x, "  lull 1", 2);
    DUE.lawFaults(x, "Lulls 1", 0);
    DUE.lawFaults(x, "lulls 1001", 6);
    DUE.lawFaults(x, "lulls 99999999999999999999", 6);
    DUE.lawFaults(x, "lulls 1 2", 8);
    DUE.lawFaults(x, "lulls - 1", 6);
    DUE.lawFaults(x, "lulls 1 +", 9);
    DUE.lawFaults(x, "lulls 1;", 8);
    DUE.lawFaults(x, "lulls 1;;bars", 8);
    DUE.lawFaults(x, "lulls 1 if", 10);
    DUE.lawFaults(x, "lulls if 1 = 1", 6);
    DUE.lawFaults(x, "bars 1", 5);
    DUE.lawFaults(x, "bars if 1", 9);
    DUE.lawFaults(x, "bars if 1 = ", 12);
    DUE.lawFaults(x, "bars if 1 = 1 = 1", 14);
    DUE.lawFaults(x, "bars if 1 + (1 = 1)", 12);
    DUE.lawFaults(x, "bars if (1 = 1", 14);
    DUE.lawFaults(x, "bars if [1 = 1]", 11);
    DUE.lawFaults(x, "bars if (1) = 1", 10);
    DUE.lawFaults(x, "bars if 1 = 1)", 13);
    DUE.lawFaults(x, "bars if not", 11);
    DUE.lawFaults(x, "bars if 1 = 1 and", 17);
    DUE.lawFaults(x, "bars if 1 = 1 or or", 17);
    DUE.lawFaults(x, "bars if 1 = 1 if 1 = 1", 14);
    DUE.lawFaults(x, "lulls [1", 8);
    DUE.lawFaults(x, "lulls 1]", 7);
    DUE.lawFaults(x, "lulls turn", 6);
    DUE.lawFaults(x, "lulls wake 0", 11);
    DUE.lawFaults(x, "lulls 1 times 2", 8);
    DUE.lawFaults(x, "lulls 1\t", 7);
    DUE.lawFaults(x, "lulls 1 " + (char) 200, 8);
    DUE.lawFaults(x, "part", 0);
    DUE.lawFaults(x, "bars if day < 1 and not not (day = 0 or key", 43);
    DUE.is("count(11)", x.count(11), 37);
    DUE.is("no LAW came", x.count(4), 0);
    DUE.is("TOKENS need no blanks", Due.law(x, "lulls1if1=1and not(2<1);bars"), 0);
    DUE.is("fault", x.fault(), -1);
    DUE.is("digits may begin with 0", Due.law(x, "lulls 0000000000000001000"), 1);
  }

  private static void limits() {
    CradleDuel x = new CradleDuel();
    String twelve = "bars" + times(";bars", 11);
    DUE.is("12 CLAUSES", Due.law(x, twelve), 0);
    DUE.lawFaults(x, twelve + ";bars", twelve.length() + 1);
    DUE.lawFaults(x, twelve + "; ", twelve.length() + 2);
    DUE.lawFaults(x, twelve + ";  +", twelve.length() + 3);
    String fifty = "lulls 1" + times("+1", 48) + "+day";
    DUE.is("50 PARTS", Due.law(x, fifty), 1);
    DUE.lawFaults(x, fifty + "+1", fifty.length() + 1);
    DUE.lawFaults(x, fifty + ";tires day", fifty.length() + 7);
    String deep = "lulls " + times("[", 8) + "1" + times("]", 8);
    DUE.is("8 brackets", Due.law(x, deep), 2);
    DUE.is("8 brackets, twice", Due.law(x, deep + "+" + deep.substring(6)), 3);
    DUE.lawFaults(x, "lulls " + times("[", 9) + "1" + times("]", 9), 14);
    DUE.lawFaults(x, "bars if " + times("(", 5) + times("[", 4) + "1", 16);
    DUE.lawFaults(x, "bars if " + times("[", 8) + "[", 16);
    DUE.lawFaults(x, "bars if " + times("(", 9), 16);
    DUE.is("brackets of both kinds", Due.law(x, "bars if ((((([[[1]]]=1)))))"), 4);
    DUE.is("many nots", Due.law(x, "bars if " + times("not ", 90) + "1=1"), 5);
    Due.put(x, "lull");
    DUE.is("no room", x.law(), -5);
    DUE.is("no FAULT: it was not read", x.fault(), -1);
    DUE.is("TAPE", x.count(6), 0);
    DUE.is("no room, nothing", x.law(), -5);
    DUE.is("status", x.status(), -5);
    String fiftyOrders = "sing 1" + times("+1", 47) + "+wake 7+cows 1";
    DUE.is("50 PARTS, P and C aside", Due.orders(x, fiftyOrders + " times 20"), -3);
    DUE.ordersFault(x, fiftyOrders + "+done", fiftyOrders.length() + 1);
    DUE.ordersFault(x, fiftyOrders + " times 20 if 1", fiftyOrders.length() + 13);
  }

  private static void orderFaults() {
    CradleDuel x = new CradleDuel();
    DUE.ordersFault(x, "", 0);
    DUE.ordersFault(x, "   ", 3);
    DUE.ordersFault(x, "begin", 5);
    DUE.ordersFault(x, "begin 1 for 2", 8);
    DUE.ordersFault(x, "begin 1 with 2", 14);
    DUE.ordersFault(x, "begin 1 with 2 with 3", 15);
    DUE.ordersFault(x, "begin 1 with for 3", 13);
    DUE.ordersFault(x, "sing", 4);
    DUE.ordersFault(x, "sing key", 5);
    DUE.ordersFault(x, "sing wake", 9);
    DUE.ordersFault(x, "sing wake 8", 10);
    DUE.ordersFault(x, "sing wake day", 10);
    DUE.ordersFault(x, "sing cows 2", 10);
    DUE.ordersFault(x, "sing cows [1]", 10);
    DUE.ordersFault(x, "part 1", 5);
    DUE.ordersFault(x, "part times", 10);
    DUE.ordersFault(x, "part times 0", 11);
    DUE.ordersFault(x, "part times 21", 11);
    DUE.ordersFault(x, "part times day", 11);
    DUE.ordersFault(x, "part times 2 times 2", 13);
    DUE.ordersFault(x, "part if 1 = 1 times 2", 14);
    DUE.ordersFault(x, "dawn;", 5);
    DUE.ordersFault(x, "dawn dawn", 5);
    DUE.ordersFault(x, "lulls 1", 0);
    DUE.ordersFault(x, "dawn" + times(";dawn", 12), 60);
    DUE.is("nothing was run", x.count(15), 0);
    DUE.is("count(11)", x.count(11), 25);
  }

  private static void orders() {
    CradleDuel x = Due.two(300, 200);
    x.verse(20, 0);
    x.verse(30, 1);
    DUE.is("begin, sing, sing", Due.orders(x, "begin 0 with 1 for 7; sing 0; sing turn"), 3);
    DUE.is("status", x.status(), 0);
    DUE.is("WAKE 1", x.of(1, 0), 200 - 20 - 7);
    DUE.is("WAKE 0", x.of(0, 0), 300 - 5 - 30);
    DUE.is("undoable", x.count(5), 3);
    DUE.is("done, last, hour", Due.orders(x, "sing 1 if hour = 1 and done = 0 and last = 0 - 1;sing 0 if done = 1 and last = wake 1;part if last = wake 0"), 3);
    DUE.is("over", x.duel(0), -1);
    DUE.is("hour and turn are -1", Due.orders(x, "dawn times 3 if hour = 0 - 1 and turn + 1 = 0; dawn times 20 if day < 5"), 5);
    DUE.is("DAY", x.count(15), 5);
    DUE.is("cows", Due.orders(x, "dawn if cows 0 = 100 and cows 1 = 100 and wake 7 = 0 - 1"), 1);
    x.cows(0, 7);
    DUE.is("of which CLAN", Due.orders(x, "dawn if cows 0 = 7;dawn times 1 if cows 1 = 100"), 2);
    DUE.is("of which CLAN", Due.orders(x, "dawn if cows 0 = 100 or cows 1 = 7"), 0);
    DUE.is("of which SINGER", Due.orders(x, "dawn if wake 0 = wake 1;dawn if wake 0 = " + x.of(0, 0) + " and wake 1 = " + x.of(1, 0)), 1);
    DUE.is("a BROKEN if is not so", Due.orders(x, "dawn if 1 / 0 = 1; dawn if 1 = 1 or 1 / 0 = 1; dawn if not 1 % 0 = 1; dawn if 1 = 2 and 1 / 0 = 1"), 1);
    DUE.is("nothing is run", Due.orders(x, "sing 77 if 1 = 2"), 0);
    DUE.is("status", x.status(), 0);
    DUE.is("stopped", x.stopped(), -1);
  }

  private static void ordersThatStop() {
    CradleDuel x = Due.two(300, 200);
    x.verse(20, 0);
    for (int i = 0; i < 14; i++) x.dawn();
    int wake = x.of(0, 0);
    String[] texts = {
      "dawn;begin 0 with 1 for 5;sing 0 times 20;dawn", "dawn;sing 0", "dawn;part", "dawn times 5;begin 0 with 0 for 1",
      "dawn;begin 0 with 1 for 0", "dawn;begin 0 with 1 for 1 / [day - day]", "dawn;begin 1000 * 1000 * 1000 + 1 with 1 for 1",
      "dawn;begin 0 with 5 for 1", "begin 0 with 1 for 5;sing 1", "begin 0 with 1 for 5;dawn"};
    int[] at = {3, 1, 1, 1, 1, 1, 1, 1, 1, 1};
    for (int i = 0; i < texts.length; i++) {
      DUE.is(texts[i], Due.orders(x, texts[i]), -3);
      DUE.is("status", x.status(), -3);
      DUE.is("stopped", x.stopped(), at[i]);
      DUE.is("fault", x.fault(), -1);
      DUE.is("DAY", x.count(15), 14);
      DUE.is("WAKE", x.of(0, 0), wake);
      DUE.is("YAWNS", x.of(0, 4), 0);
      DUE.is("duel", x.duel(0), -1);
      DUE.is("undoable", x.count(5), 14);
      DUE.is("REFUSED once", x.count(9), i + 1);
    }
    x.dawn();
    x.dawn();
    DUE.is("full", x.count(5), 16);
    DUE.is("stops behind many", Due.orders(x, "dawn times 20;dawn times 20;sing 9"), -3);
    for (int i = 0; i < 16; i++) {
      DUE.is("undo", x.undo(), 3);
      DUE.is("DAY", x.count(15), 15 - i);
    }
    DUE.is("undo", x.undo(), -3);
    DUE.is("first CLAUSE", Due.orders(x, "part"), -3);
    DUE.is("stopped", x.stopped(), 0);
    DUE.is("a FAULT", Due.orders(x, "part 1"), -6);
    DUE.is("stopped", x.stopped(), -1);
    DUE.is("one can't be", Due.orders(x, "part"), -3);
    DUE.is("TAPE", x.count(6), 0);
    Due.law(x, "bars if");
    DUE.is("law() leaves stopped", x.stopped(), 0);
    DUE.is("fault of law()", x.fault(), 7);
    DUE.is("orders that are run", Due.orders(x, "dawn"), 1);
    DUE.is("fault", x.fault(), -1);
  }

  public static void main(String[] args) {
    tape();
    rows();
    cutTokens();
    lawFaults();
    limits();
    orderFaults();
    orders();
    ordersThatStop();
    DUE.end("promises 10 to 17");
  }
}
