import java.util.List;

/** Terms II, as TEXTS are read, and promises 10 to 17: the words that name an edge, each by itself. */
public final class EdgesOfTextsTest {
  private static final Due DUE = new Due();
  private static final String PARTS_OF_LAWS = "5 1000 [ skill strong key same hour wake theirs day mood";
  private static final String PARTS_OF_ORDERS = "5 1000 [ day hour turn done last wake cows";
  private static final String JOINTS = "+ - * / %";
  private static final String ALL_TOKENS = "lulls tires wakes bars begin sing part dawn with for times if or and not skill strong key same"
      + " hour wake theirs day mood turn done last cows 0 1 5 8 20 21 1000 1001 ( ) [ ] < > = + - * / % ; ? A . , ! & : { ` _ lull";

  private static CradleDuel fresh() {
    CradleDuel x = Due.two(300, 200);
    x.verse(20, 0);
    return x;
  }

  private static void twentyBytes() {
    DUE.says("10: Twenty bytes come behind the TAPE, four of each number, the highest first: how many it has.");
    CradleDuel x = new CradleDuel();
    // STRONG 1, KEY 0, 2, 1, 3, 2, 4, 3, 5, 4, 6, 0 and so on
    DUE.is("feed", x.feed(0x01000201, 0x03020403, 0x05040600, 0x07010802, 0x09030a04), 20);
    DUE.is("count(6)", x.count(6), 20);
    DUE.is("row", x.row(), 10);
    for (int i = 0; i < 10; i++) {
      DUE.is("STRONG", x.at(i, 0), 1 + i);
      DUE.is("KEY", x.at(i, 1), i % 5);
    }
    CradleDuel y = new CradleDuel();
    y.feed(0x63040000, 0, 0, 0, 0);
    y.end(2);
    DUE.is("behind what is there", y.feed(0x62030000, 0, 0, 0, 0), 22);
    y.end(4);
    DUE.is("row", y.row(), 2);
    DUE.is("the first", y.at(0, 0) * 10 + y.at(0, 1), 994);
    DUE.is("the second", y.at(1, 0) * 10 + y.at(1, 1), 983);
  }

  private static void highBytes() {
    DUE.says("II: single other bytes");
    // bytes above 127 are bytes as any other one
    CradleDuel x = new CradleDuel();
    DUE.is("feed", x.feed(-1, Integer.MIN_VALUE, Integer.MAX_VALUE, 0x80ff7f81, -2), 20);
    DUE.is("row", x.row(), 0);
    DUE.is("coughs", x.coughs(), 10);
    for (int sign : new int[] {0, 1, 9, 10, 13, 31, 33, 64, 65, 90, 96, 123, 127, 128, 160, 225, 255}) {
      DUE.lawFaults(fresh(), "lulls " + (char) sign + "1", 6);
      DUE.lawFaults(fresh(), "lulls 1 " + (char) sign, 8);
      DUE.lawFaults(fresh(), (char) sign + "lulls 1", 0);
    }
  }

  private static void tapeIsFull() {
    DUE.says("10: NONE, if there would be more than 400.", "II: TEXTS are on a TAPE of at most 400 bytes.");
    CradleDuel x = new CradleDuel();
    for (int i = 1; i <= 20; i++) DUE.is("feed", x.feed(0x01010101, 0x01010101, 0x01010101, 0x01010101, 0x01010101), 20 * i);
    DUE.is("400 are there", x.feed(0, 0, 0, 0, 0), -1);
    DUE.is("they stay", x.count(6), 400);
    for (int length = 381; length < 400; length++) {
      CradleDuel y = new CradleDuel();
      for (int i = 0; i < 20; i++) y.feed(1, 1, 1, 1, 1);
      y.end(length);
      DUE.is("401 and more", y.feed(1, 1, 1, 1, 1), -1);
      DUE.is("none came", y.count(6), length);
    }
    DUE.is("end", x.end(380), 380);
    DUE.is("just 400", x.feed(0, 0, 0, 0, 0), 400);
    DUE.is("status is as it was", x.status(), 0);
    DUE.is("feed is not counted as REFUSED", x.count(7) + x.count(10) + x.count(11), 0);
    DUE.is("a row of 400", x.row(), 10);
    DUE.is("coughs", x.coughs(), 190);
    DUE.is("the TAPE is empty", x.count(6), 0);
    DUE.is("there is room again", x.feed(1, 1, 1, 1, 1), 20);
  }

  private static void longTexts() {
    DUE.says("II: FAULT: the first TOKEN that can't go on there (the end's: the TEXT's length).");
    CradleDuel x = fresh();
    DUE.is("400 bytes", Due.law(x, " ".repeat(393) + "lulls 7"), 0);
    DUE.is("400 bytes", Due.law(x, "lulls 7" + " ".repeat(393)), 1);
    DUE.lawFaults(x, " ".repeat(393) + "lulls ?", 399);
    DUE.lawFaults(x, " ".repeat(395) + "lulls", 400);
    DUE.lawFaults(x, "lulls" + " ".repeat(395), 400);
    DUE.lawFaults(x, " ".repeat(400), 400);
    DUE.lawFaults(x, "z".repeat(400), 0);
    DUE.lawFaults(x, "lulls " + "9".repeat(394), 6);
    DUE.is("a long NUMBER", Due.law(x, "lulls " + "0".repeat(393) + "7"), 2);
    DUE.ordersFault(x, " ".repeat(395) + "dawn;", 400);
    DUE.ordersFault(x, " ".repeat(395) + ";dawn", 395);
    DUE.is("400 bytes", Due.orders(x, " ".repeat(396) + "dawn"), 1);
    DUE.lawFaults(x, "lulls  1  +   ", 14);
    DUE.lawFaults(x, "  lulls 1  1  ", 11);
  }

  private static void endOfTheTape() {
    DUE.says("11: The TAPE has its first n bytes alone: n.", "11: NONE, if it has not so many, or n is below 0.");
    CradleDuel x = new CradleDuel();
    DUE.is("of nothing", x.end(0), 0);
    DUE.is("of nothing", x.end(1), -1);
    DUE.is("of nothing", x.end(-1), -1);
    x.feed(0x01010202, 0x03030404, 0, 0, 0);
    DUE.is("one more than it has", x.end(21), -1);
    DUE.is("below 0", x.end(-1), -1);
    DUE.far("end", -1, n -> x.end(n));
    DUE.is("it stays", x.count(6), 20);
    DUE.is("all of it", x.end(20), 20);
    DUE.is("one less", x.end(19), 19);
    DUE.is("it has no more", x.end(20), -1);
    DUE.is("8", x.end(8), 8);
    DUE.is("status is as it was", x.status(), 0);
    DUE.is("row", x.row(), 4);
    DUE.is("coughs", x.coughs(), 0);
    x.feed(1, 1, 1, 1, 1);
    DUE.is("none", x.end(0), 0);
    DUE.is("it is empty", x.row(), -6);
  }

  private static void rowOfNothing() {
    DUE.says("12: -6 the TAPE is empty.");
    CradleDuel x = fresh();
    List<String> ahead = Due.look(x);
    DUE.refused(x, "row", x.row(), -6);
    DUE.is("count(11)", x.count(11), 1);
    DUE.same("row of nothing", ahead, Due.look(x));
    x.feed(1, 1, 1, 1, 1);
    x.end(0);
    DUE.refused(x, "row behind end(0)", x.row(), -6);
    Due.put(x, "\1\1");
    x.row();
    DUE.refused(x, "row behind row", x.row(), -6);
    Due.law(x, "bars");
    DUE.refused(x, "row behind law", x.row(), -6);
    Due.orders(x, "dawn");
    DUE.refused(x, "row behind orders", x.row(), -6);
  }

  private static void rowByPairs() {
    DUE.says("12: A ROW, the TAPE is empty then: how many VERSES came.",
        "IV: A ROW: the TAPE's bytes by pairs: STRONG, KEY: a VERSE;");
    CradleDuel x = new CradleDuel();
    Due.put(x, "\1\0" + (char) 99 + "\4");
    DUE.is("both edges", x.row(), 2);
    DUE.is("coughs", x.coughs(), 0);
    DUE.is("TAPE", x.count(6), 0);
    DUE.is("status", x.status(), 0);
    DUE.is("1, 0", x.at(0, 0) * 10 + x.at(0, 1), 10);
    DUE.is("99, 4", x.at(1, 0) * 10 + x.at(1, 1), 994);
    Due.put(x, "\7\2");
    DUE.is("behind those that are there", x.row(), 1);
    DUE.is("7, 2", x.at(2, 0) * 10 + x.at(2, 1), 72);
  }

  private static void coughsOfARow() {
    DUE.says("IV: one that can't be, one within which the TAPE ends, one for which there is no room is a COUGH: none.");
    String[] cannot = {"\0\0", (char) 100 + "\0", "\1\5", (char) 255 + "\0", "\1" + (char) 255, (char) 128 + "\4", "\1" + (char) 128, "\0\4"};
    for (String pair : cannot) {
      CradleDuel x = new CradleDuel();
      Due.put(x, pair);
      DUE.is("one that can't be", x.row(), 0);
      DUE.is("a COUGH", x.coughs(), 1);
      DUE.is("none", x.count(1), 0);
      DUE.is("not REFUSED", x.status() + x.count(7), 0);
      Due.put(x, pair + "\3\1" + pair);
      DUE.is("the next one comes", x.row(), 1);
      DUE.is("two COUGHS", x.coughs(), 2);
      DUE.is("STRONG", x.at(0, 0), 3);
    }
    CradleDuel half = new CradleDuel();
    Due.put(half, "\5");
    DUE.is("half a pair", half.row(), 0);
    DUE.is("a COUGH", half.coughs(), 1);
    Due.put(half, "\5\1\6");
    DUE.is("a pair and a half", half.row(), 1);
    DUE.is("a COUGH", half.coughs(), 1);
    CradleDuel full = new CradleDuel();
    for (int i = 0; i < 9; i++) full.verse(9, 0);
    Due.put(full, "\1\1\2\2\3\3\4");
    DUE.is("room for one", full.row(), 1);
    DUE.is("two without room, a half", full.coughs(), 3);
    DUE.is("the first", full.at(9, 0), 1);
    Due.put(full, "\1\1\0\0\1");
    DUE.is("no room at all", full.row(), 0);
    DUE.is("each a COUGH, once", full.coughs(), 3);
    DUE.is("not REFUSED", full.status() + full.count(10), 0);
    DUE.is("VERSES", full.count(1), 10);
  }

  private static void coughsOfTheLatest() {
    DUE.says("13: How many COUGHS the latest row() had that was not REFUSED (0 ahead of any).");
    CradleDuel x = new CradleDuel();
    DUE.is("ahead of any", x.coughs(), 0);
    x.row();
    DUE.is("behind one that was REFUSED", x.coughs(), 0);
    Due.put(x, "\0\0\0");
    DUE.is("row", x.row(), 0);
    DUE.is("two", x.coughs(), 2);
    x.row();
    DUE.is("behind one that was REFUSED", x.coughs(), 2);
    x.verse(0, 0);
    Due.law(x, "lulls");
    Due.orders(x, "dawn");
    DUE.is("others leave it", x.coughs(), 2);
    Due.put(x, "\1\1");
    x.row();
    DUE.is("the latest had none", x.coughs(), 0);
  }

  private static void lawsAtMost() {
    DUE.says("II: LAWS, 6 at most", "14: The TAPE, which is empty then, becomes a LAW: its number.",
        "14: -5 (ahead of reading it; the TAPE is empty then, too);");
    CradleDuel x = fresh();
    for (int i = 0; i < 6; i++) {
      DUE.is("LAW " + i, Due.law(x, "lulls " + i), i);
      DUE.is("TAPE", x.count(6), 0);
      DUE.is("status", x.status(), 0);
    }
    DUE.lawless(x, "lulls 6");
    DUE.lawless(x, "lulls ?");
    DUE.lawless(x, "");
    DUE.lawless(x, "   ");
    DUE.is("LAWS", x.count(4), 6);
    DUE.is("count(10)", x.count(10), 4);
    DUE.is("count(11)", x.count(11), 0);
  }

  private static void blanksAlone() {
    DUE.says("14: -6 (blanks alone: FAULT at the end).", "15: -6 (as for law()).", "I: -6 a TEXT, a ROW that can't be.");
    for (int many = 0; many < 5; many++) {
      CradleDuel x = fresh();
      List<String> ahead = Due.look(x);
      DUE.lawFaults(x, " ".repeat(many), many);
      DUE.is("status", x.status(), -6);
      DUE.ordersFault(x, " ".repeat(many), many);
      DUE.is("status", x.status(), -6);
      DUE.is("count(11)", x.count(11), 2);
      DUE.is("no LAW", x.count(4), 0);
      Due.orders(x, "dawn if 1 = 2");
      DUE.same("blanks", ahead, Due.look(x));
    }
  }

  private static void howManyWereRun() {
    DUE.says("15: ORDERS, the TAPE is empty then: how many were run.", "15: -3 one can't be;");
    CradleDuel x = fresh();
    DUE.is("none", Due.orders(x, "dawn if 1 = 2"), 0);
    DUE.is("status", x.status(), 0);
    DUE.is("TAPE", x.count(6), 0);
    DUE.is("one", Due.orders(x, "dawn"), 1);
    DUE.is("the most: 12 times 20", Due.orders(x, "dawn times 20" + ";dawn times 20".repeat(11)), 240);
    DUE.is("DAY", x.count(15), 241);
    DUE.refused(x, "no DUEL", Due.orders(x, "part"), -3);
    DUE.is("TAPE", x.count(6), 0);
    DUE.is("count(9)", x.count(9), 1);
    for (int i = 0; i < 6; i++) Due.law(x, "bars");
    DUE.is("with 6 LAWS, too", Due.orders(x, "dawn"), 1);
    CradleDuel empty = new CradleDuel();
    DUE.is("hills without singers", Due.orders(empty, "dawn times 3"), 3);
    DUE.is("hills without singers", Due.orders(empty, "begin 0 with 1 for 1"), -3);
  }

  private static void faultOfTheLatest() {
    DUE.says("16: FAULT of the latest law(), orders() that read a TEXT: its place; NONE without.");
    CradleDuel x = fresh();
    DUE.is("ahead of any", x.fault(), -1);
    Due.law(x, "lulls ?");
    DUE.is("law", x.fault(), 6);
    x.feed(1, 1, 1, 1, 1);
    x.row();
    x.row();
    DUE.is("others leave it", x.fault(), 6);
    Due.orders(x, "dawn ?");
    DUE.is("orders", x.fault(), 5);
    Due.law(x, "bars");
    DUE.is("none", x.fault(), -1);
    Due.law(x, "?");
    DUE.is("the first TOKEN", x.fault(), 0);
    Due.orders(x, "part");
    DUE.is("read, though one can't be", x.fault(), -1);
    for (int i = 0; i < 5; i++) Due.law(x, "bars");
    Due.orders(x, "dawn 1");
    DUE.is("orders", x.fault(), 5);
    Due.law(x, "bars");
    DUE.is("that law() read no TEXT", x.fault(), 5);
    Due.orders(x, "dawn");
    DUE.is("none", x.fault(), -1);
    Due.law(x, "?");
    DUE.is("that law() read no TEXT", x.fault(), -1);
  }

  private static void whichStopped() {
    DUE.says("17: Which CLAUSE of the latest orders() could not be.", "17: NONE.");
    CradleDuel x = fresh();
    DUE.is("ahead of any", x.stopped(), -1);
    for (int k = 0; k < 12; k++) {
      String text = "dawn;".repeat(k) + "part" + ";dawn".repeat(11 - k);
      DUE.is(text, Due.orders(x, text), -3);
      DUE.is("stopped of " + text, x.stopped(), k);
    }
    Due.law(x, "bars");
    Due.law(x, "?");
    x.part();
    x.row();
    DUE.is("others leave it", x.stopped(), 11);
    Due.orders(x, "dawn");
    DUE.is("all were run", x.stopped(), -1);
    Due.orders(x, "part");
    DUE.is("the first", x.stopped(), 0);
    Due.orders(x, "part ?");
    DUE.is("none was run", x.stopped(), -1);
    Due.orders(x, "part");
    Due.orders(x, "part if 1 = 2");
    DUE.is("none could not be", x.stopped(), -1);
  }

  private static void tokens() {
    DUE.says("II: TOKENS: longest rows of letters a .. z, of digits, single other bytes, any blanks (32) between.");
    CradleDuel x = fresh();
    DUE.is("no blanks", Due.law(x, "lulls1+2*[3]if1=1and not(2<1)or 1>1;bars"), 0);
    DUE.is("many blanks", Due.law(x, "   lulls    1   +  2  ;   bars    "), 1);
    DUE.lawFaults(x, "lul ls 1", 0);
    DUE.lawFaults(x, "lullsskill", 0);
    DUE.lawFaults(x, "lullsif1=1", 0);
    DUE.lawFaults(x, "lulls 1 if1=1andnot1=1", 13);
    DUE.lawFaults(x, "lulls 1 0", 8);
    DUE.lawFaults(x, "lulls 1.5", 7);
    DUE.lawFaults(x, "lulls skill2", 11);
    DUE.lawFaults(x, "lulls 2skill", 7);
    DUE.lawFaults(x, "lulls skilL", 6);
    DUE.lawFaults(x, "lulls Skill", 6);
    DUE.lawFaults(x, "LULLS 1", 0);
    DUE.lawFaults(x, "lulls\t1", 5);
    DUE.lawFaults(x, "lulls\n1", 5);
    DUE.lawFaults(x, "lulls" + (char) 160 + "1", 5);
    DUE.lawFaults(x, "lulls 1 <> 2", 8);
    DUE.lawFaults(x, "bars if 1 <= 2", 11);
    DUE.lawFaults(x, "bars if 1 == 2", 11);
    DUE.lawFaults(x, "bars if 1 >> 2", 11);
    DUE.ordersFault(x, "sing wake1wake", 10);
    DUE.is("wake1 are two TOKENS", Due.orders(x, "dawn if wake1=200and wake0=300"), 1);
    x.begin(0, 1, 1);
    // the letters, digits at both edges
    x.force(Due.law(x, "lulls 09 + 90 if strong = strong and hour = 0 and key < 9"));
    DUE.is("09 + 90", x.asks(0, 0), 99);
  }

  // told by the grammar's rules: which TOKENS of all can go on behind a beginning, and whether it may end there
  private static void goOn(boolean law, String beginning, boolean mayEnd, String... next) {
    String allowed = " " + String.join(" ", next) + " ";
    for (String token : ALL_TOKENS.split(" ")) {
      CradleDuel x = fresh();
      String text = beginning + " " + token;
      int place = text.length() - token.length();
      if (law) Due.law(x, text); else Due.orders(x, text);
      boolean goesOn = x.fault() != place;
      DUE.is("\"" + text + "\" goes on", goesOn ? 1 : 0, allowed.contains(" " + token + " ") ? 1 : 0);
      if (goesOn) DUE.is("\"" + text + "\" at the end at most", x.fault() == -1 || x.fault() == text.length() ? 1 : 0, 1);
    }
    CradleDuel x = fresh();
    int answer = law ? Due.law(x, beginning) : Due.orders(x, beginning);
    DUE.is("\"" + beginning + "\" may end", answer != -6 ? 1 : 0, mayEnd ? 1 : 0);
    DUE.is("fault of \"" + beginning + "\"", x.fault(), mayEnd ? -1 : beginning.length());
  }

  private static void testsGoOn(boolean law, String clause, String parts) {
    String numbers = "0 1 5 8 20 21 1000";
    String plain = "not ( " + numbers + " " + parts;
    goOn(law, clause + " if", false, plain);
    goOn(law, clause + " if not", false, plain);
    goOn(law, clause + " if not not", false, plain);
    goOn(law, clause + " if (", false, plain);
    goOn(law, clause + " if ((", false, plain);
    goOn(law, clause + " if 1", false, JOINTS, "< > =");
    goOn(law, clause + " if 1 +", false, numbers, parts);
    goOn(law, clause + " if [1", false, JOINTS, "]");
    goOn(law, clause + " if [1]", false, JOINTS, "< > =");
    goOn(law, clause + " if (1", false, JOINTS, "< > =");
    for (String joint : new String[] {"<", ">", "="}) {
      goOn(law, clause + " if 1 " + joint, false, numbers, parts);
      goOn(law, clause + " if 1 " + joint + " 2", true, JOINTS, "and or ;");
    }
    goOn(law, clause + " if 1 = [2", false, JOINTS, "]");
    goOn(law, clause + " if 1 = [2]", true, JOINTS, "and or ;");
    goOn(law, clause + " if not 1 = 2", true, JOINTS, "and or ;");
    goOn(law, clause + " if (1 = 2", false, JOINTS, "and or )");
    goOn(law, clause + " if (1 = 2)", true, "and or ;");
    goOn(law, clause + " if ((1 = 2)", false, "and or )");
    goOn(law, clause + " if 1 = 2 and", false, plain);
    goOn(law, clause + " if 1 = 2 or", false, plain);
    goOn(law, clause + " if 1 = 2 and 3 = 4", true, JOINTS, "and or ;");
    goOn(law, clause + " if 1 = 2 or 3 = 4 and 5 = 6", true, JOINTS, "and or ;");
  }

  private static void sumsGoOn(boolean law, String clause, boolean mayEnd, String parts, String behind) {
    String all = "0 1 5 8 20 21 1000 " + parts;
    goOn(law, clause, false, all);
    goOn(law, clause + " [", false, all);
    goOn(law, clause + " [[", false, all);
    goOn(law, clause + " 1", mayEnd, JOINTS, behind);
    goOn(law, clause + " 1000", mayEnd, JOINTS, behind);
    for (String joint : JOINTS.split(" ")) {
      goOn(law, clause + " 1 " + joint, false, all);
      goOn(law, clause + " 1 " + joint + " 2", mayEnd, JOINTS, behind);
    }
    goOn(law, clause + " [1", false, JOINTS, "]");
    goOn(law, clause + " [1 + 2", false, JOINTS, "]");
    goOn(law, clause + " [1]", mayEnd, JOINTS, behind);
    goOn(law, clause + " [[1]", false, JOINTS, "]");
    goOn(law, clause + " day", mayEnd, JOINTS, behind);
  }

  private static void lawsGoOn() {
    DUE.says("II: CLAUSE: ((\"lulls\" | \"tires\" | \"wakes\") SUM | \"bars\") [\"if\" TEST].",
        "II: Words: \"skill\" | \"strong\" | \"key\" | \"same\" | \"hour\" | \"wake\" | \"theirs\" | \"day\" | \"mood\".",
        "II: Of both languages: CLAUSE {\";\" CLAUSE}",
        "II: TEST: BOTH {\"or\" BOTH}. BOTH: PLAIN {\"and\" PLAIN}. PLAIN: \"not\" PLAIN | \"(\" TEST \")\" | SUM (\"<\" | \">\" | \"=\") SUM."
        + " SUM: TERM {(\"+\" | \"-\") TERM}. TERM: PART {(\"*\" | \"/\" | \"%\") PART}. PART: NUMBER (to 1,000) | \"[\" SUM \"]\" | a word, as told.");
    goOn(true, "", false, "lulls tires wakes bars");
    for (String kind : new String[] {"lulls", "tires", "wakes"}) {
      sumsGoOn(true, kind, true, PARTS_OF_LAWS, "; if");
      goOn(true, kind + " 1 ;", false, "lulls tires wakes bars");
      goOn(true, kind + " 1 if 1 = 1 ;", false, "lulls tires wakes bars");
    }
    goOn(true, "bars", true, "; if");
    goOn(true, "bars ;", false, "lulls tires wakes bars");
    testsGoOn(true, "bars", PARTS_OF_LAWS);
    testsGoOn(true, "wakes 1", PARTS_OF_LAWS);
  }

  private static void ordersGoOn() {
    DUE.says("II: ORDERS: CLAUSE: (\"begin\" SUM \"with\" SUM \"for\" SUM | \"sing\" SUM | \"part\" | \"dawn\") [\"times\" TIMES] [\"if\" TEST].",
        "II: Words: \"day\" | \"hour\" | \"turn\" | \"done\" | \"last\" | \"wake\" P | \"cows\" C");
    goOn(false, "", false, "begin sing part dawn");
    sumsGoOn(false, "begin", false, PARTS_OF_ORDERS, "with");
    sumsGoOn(false, "begin 1 with", false, PARTS_OF_ORDERS, "for");
    sumsGoOn(false, "begin 1 with 1 for", true, PARTS_OF_ORDERS, "times if ;");
    sumsGoOn(false, "sing", true, PARTS_OF_ORDERS, "times if ;");
    goOn(false, "part", true, "times if ;");
    goOn(false, "dawn", true, "times if ;");
    goOn(false, "part ;", false, "begin sing part dawn");
    for (String clause : new String[] {"begin 1 with 1 for 1", "sing 1", "part", "dawn"}) {
      goOn(false, clause + " times", false, "1 5 8 20");
      goOn(false, clause + " times 20", true, "if ;");
      goOn(false, clause + " times 1 if 1 = 1", true, JOINTS, "and or ;");
    }
    testsGoOn(false, "dawn", PARTS_OF_ORDERS);
    testsGoOn(false, "sing 1 times 2", PARTS_OF_ORDERS);
  }

  private static void owners() {
    DUE.says("II: (P: a NUMBER 0 .. 7, C: 0 .. 1).");
    goOn(false, "sing wake", false, "0 1 5");
    goOn(false, "sing cows", false, "0 1");
    goOn(false, "sing wake 7", true, JOINTS, "times if ;");
    goOn(false, "sing cows 1", true, JOINTS, "times if ;");
    goOn(false, "dawn if wake", false, "0 1 5");
    goOn(false, "dawn if cows 0", false, JOINTS, "< > =");
    CradleDuel x = fresh();
    DUE.is("wake 7", Due.orders(x, "dawn if wake 7 = 0 - 1"), 1);
    DUE.ordersFault(x, "dawn if wake 8 = 0", 13);
    DUE.is("cows 1", Due.orders(x, "dawn if cows 1 = 100"), 1);
    DUE.ordersFault(x, "dawn if cows 2 = 0", 13);
    DUE.ordersFault(x, "dawn if cows 99999999999 = 0", 13);
    DUE.ordersFault(x, "dawn if wake 4294967296 = 0", 13);
  }

  private static void howOften() {
    DUE.says("II: TIMES: a NUMBER 1 .. 20.");
    CradleDuel x = fresh();
    DUE.ordersFault(x, "dawn times 0", 11);
    DUE.is("once", Due.orders(x, "dawn times 1"), 1);
    DUE.is("20 times", Due.orders(x, "dawn times 20"), 20);
    DUE.ordersFault(x, "dawn times 21", 11);
    DUE.ordersFault(x, "dawn times 4294967297", 11);
    DUE.ordersFault(x, "dawn times 1000", 11);
    DUE.ordersFault(x, "dawn times [1]", 11);
    DUE.ordersFault(x, "dawn times 0 - 1", 11);
    DUE.ordersFault(x, "dawn times 2 + 1", 13);
    DUE.is("DAY", x.count(15), 21);
  }

  private static void numbersTo() {
    DUE.says("II: NUMBER (to 1,000)");
    CradleDuel x = fresh();
    DUE.is("0", Due.law(x, "lulls 0"), 0);
    DUE.is("1000", Due.law(x, "lulls 1000"), 1);
    DUE.is("zeros ahead", Due.law(x, "lulls 00001000"), 2);
    for (String number : new String[] {"1001", "1010", "2000", "9999", "10000", "01001", "4294967296", "4294967297", "18446744073709551616"}) {
      DUE.lawFaults(x, "lulls " + number, 6);
      DUE.lawFaults(x, "bars if 1 = " + number, 12);
      DUE.ordersFault(x, "sing " + number, 5);
    }
    x.begin(0, 1, 1);
    x.force(1);
    DUE.is("1000, the nearest", x.asks(0, 0), 999);
    x.force(Due.law(x, "lulls 1000 - 999"));
    DUE.is("1000 - 999", x.asks(0, 0), 1);
  }

  private static void clausesAtMost() {
    DUE.says("II: 12 at most (FAULT at the 13th's first TOKEN).");
    CradleDuel x = fresh();
    String laws = "lulls 1" + ";bars".repeat(11);
    String orders = "dawn" + " ; dawn".repeat(11);
    DUE.is("12 of a LAW", Due.law(x, laws), 0);
    DUE.is("12 of ORDERS", Due.orders(x, orders), 12);
    DUE.lawFaults(x, laws + ";bars", laws.length() + 1);
    DUE.lawFaults(x, laws + ";   bars", laws.length() + 4);
    DUE.lawFaults(x, laws + "; ?", laws.length() + 2);
    DUE.lawFaults(x, laws + ";", laws.length() + 1);
    DUE.lawFaults(x, laws + ";  ", laws.length() + 3);
    DUE.lawFaults(x, laws + " ?", laws.length() + 1);
    DUE.lawFaults(x, laws + ";bars;bars", laws.length() + 1);
    DUE.ordersFault(x, orders + ";dawn", orders.length() + 1);
    DUE.ordersFault(x, orders + "; 7", orders.length() + 2);
    DUE.is("none of them was run", x.count(15), 12);
    DUE.is("no LAW came", x.count(4), 1);
  }

  private static void partsAtMost() {
    DUE.says("II: 50 PARTS that are NUMBERS and words (FAULT at the 51st)", "II: P, C, TIMES aside, NUMBERS and words count as PARTS.");
    CradleDuel x = fresh();
    String fifty = "lulls 1" + "+1".repeat(49);
    DUE.is("50 NUMBERS", Due.law(x, fifty), 0);
    DUE.lawFaults(x, fifty + "+1", fifty.length() + 1);
    DUE.lawFaults(x, fifty + "+ day", fifty.length() + 2);
    DUE.lawFaults(x, fifty + "+[[1]]", fifty.length() + 3);
    DUE.lawFaults(x, fifty + " if 1 = 1", fifty.length() + 4);
    DUE.lawFaults(x, fifty + ";bars;bars if not (day = 1)", fifty.length() + 19);
    DUE.is("no more PARTS", Due.law(x, fifty + ";bars;bars"), 1);
    String words = "lulls day" + "+day".repeat(49);
    DUE.is("50 words", Due.law(x, words), 2);
    DUE.lawFaults(x, words + "+1", words.length() + 1);
    String tests = "bars if 1=1" + " or 1=1".repeat(24);
    DUE.is("50 in a TEST", Due.law(x, tests), 3);
    DUE.lawFaults(x, tests + " or 1=1", tests.length() + 4);
    String over = "lulls 1+2+3" + ";tires 1+2+3+4".repeat(11);
    DUE.is("47 in all CLAUSES", Due.law(x, over + "+5+6+7"), 4);
    DUE.lawFaults(x, over + "+5+6+7+8", over.length() + 7);
    DUE.is("brackets are no PARTS", Due.law(x, "lulls " + "[1]+".repeat(49) + "[1]"), 5);
    String orders = "dawn times 20 if wake 7+cows 1" + "+1".repeat(47);
    DUE.is("P, C, TIMES aside", Due.orders(x, orders + "=0"), 0);
    DUE.ordersFault(x, orders + "=0+0", orders.length() + 3);
    DUE.ordersFault(x, orders + "=0;dawn if wake 1 = 1", orders.length() + 11);
    DUE.ordersFault(x, orders + "=0;begin cows 1", orders.length() + 9);
    DUE.is("TIMES are none", Due.orders(x, orders + "=0;dawn times 1;dawn times 2"), 3);
  }

  private static void bracketsAtMost() {
    DUE.says("II: 8 brackets of both kinds within one another (FAULT at the 9th) at most.");
    String open = "[".repeat(8) + "1" + "]".repeat(8);
    DUE.is("8 of a SUM", Due.law(fresh(), "lulls " + open), 0);
    DUE.is("8 and 8 behind", Due.law(fresh(), "lulls " + open + "+" + open + "*" + open), 0);
    DUE.lawFaults(fresh(), "lulls [" + open + "]", 14);
    DUE.lawFaults(fresh(), "lulls " + "[ ".repeat(8) + "[", 22);
    DUE.lawFaults(fresh(), "lulls " + open + "+[" + open + "]", 32);
    for (int round = 0; round <= 8; round++) {
      int square = 8 - round;
      String test = "(".repeat(round) + "[".repeat(square) + "1" + "]".repeat(square) + "=1" + ")".repeat(round);
      DUE.is("8 of both: " + test, Due.law(fresh(), "bars if " + test), 0);
      DUE.is("8 of both, twice", Due.law(fresh(), "bars if " + test + " or " + test), 0);
      DUE.is("8 of both in ORDERS", Due.orders(fresh(), "dawn if " + test), 1);
      DUE.lawFaults(fresh(), "bars if (" + test + ")", 16);
      String deeper = "(".repeat(round) + "[".repeat(square + 1) + "1" + "]".repeat(square + 1) + "=1" + ")".repeat(round);
      DUE.lawFaults(fresh(), "bars if " + deeper, 16);
      DUE.ordersFault(fresh(), "dawn if " + deeper, 16);
    }
    DUE.lawFaults(fresh(), "bars if " + "(".repeat(9) + "1=1" + ")".repeat(9), 16);
    DUE.lawFaults(fresh(), "bars if " + "(not ".repeat(8) + "(1=1", 48);
    DUE.is("none within one another", Due.law(fresh(), "bars if " + "(1=1) or ".repeat(9) + "(1=1)"), 0);
  }

  private static void oneBehindTheOther() {
    DUE.says("14: The TAPE, which is empty then, becomes a LAW", "II: FAULT: the first TOKEN that can't go on there");
    CradleDuel x = fresh();
    x.begin(0, 1, 1);
    // what was read ahead, however much of it, and where it broke off, does not matter
    for (int i = 0; i < 6; i++) DUE.lawFaults(x, "lulls 1" + "+1".repeat(49) + " if ?", 109);
    for (int i = 0; i < 3; i++) DUE.lawFaults(x, "bars if " + "(".repeat(4) + "[".repeat(4) + "?", 16);
    DUE.is("8 brackets behind that", Due.law(x, "bars if " + "(".repeat(4) + "[".repeat(4) + "1" + "]".repeat(4) + "=2" + ")".repeat(4)), 0);
    for (int i = 0; i < 6; i++) DUE.ordersFault(x, "sing 1" + "+1".repeat(49) + "+?", 105);
    DUE.is("12 CLAUSES behind that", Due.law(x, "tires 1" + ";wakes 1".repeat(9) + ";bars if 1 = 2;lulls 7 + " + "[".repeat(8) + "1" + "]".repeat(8)), 1);
    x.force(1);
    DUE.is("the 12th tells", x.asks(0, 0), 8);
    DUE.is("one CLAUSE behind that", Due.law(x, "tires 3"), 2);
    x.force(2);
    DUE.is("it alone tells", x.asks(0, 0) * 10 + x.asks(0, 1), 203);
    DUE.is("and what it was is not changed", x.wakes(0), 100);
    x.force(1);
    DUE.is("the 12th tells still", x.asks(0, 0) * 10 + x.asks(0, 1), 81);
    DUE.is("ORDERS behind a LAW", Due.orders(x, "part;dawn times 2"), 3);
  }

  public static void main(String[] args) {
    twentyBytes();
    highBytes();
    tapeIsFull();
    longTexts();
    endOfTheTape();
    rowOfNothing();
    rowByPairs();
    coughsOfARow();
    coughsOfTheLatest();
    lawsAtMost();
    blanksAlone();
    howManyWereRun();
    faultOfTheLatest();
    whichStopped();
    tokens();
    lawsGoOn();
    ordersGoOn();
    owners();
    howOften();
    numbersTo();
    clausesAtMost();
    partsAtMost();
    bracketsAtMost();
    oneBehindTheOther();
    DUE.end("edges of promises 10 to 17");
  }
}
