import java.lang.reflect.Method;
import java.util.ArrayList;
import java.util.HashMap;
import java.util.List;
import java.util.Map;
import java.util.Random;

/** Random runs of calls, the same on the class and on the Oracle; every answer must be alike. */
public final class OracleTest {
  private static final Map<String, Method> REAL = methods(CradleDuel.class);
  private static final Map<String, Method> PLAIN = methods(Oracle.class);
  private static final String[] LOOKS = {
    "of", "at", "asks", "wakes", "duel", "count", "fault", "stopped", "coughs", "status", "drawn", "game", "saddle",
    "rule", "champions", "made", "fits", "catching", "keep"};

  private static final int MOST_CALLS = 512;

  private final Random random;
  private final CradleDuel real = new CradleDuel();
  private final Oracle plain = new Oracle();
  private final List<String> trace = new ArrayList<>();
  private int calls = 0;

  private OracleTest(long seed) { random = new Random(seed); }

  private static Map<String, Method> methods(Class<?> c) {
    Map<String, Method> all = new HashMap<>();
    for (Method m : c.getDeclaredMethods()) {
      if (java.lang.reflect.Modifier.isPublic(m.getModifiers())) all.put(m.getName(), m);
    }
    return all;
  }

  private int call(String name, int... args) throws Exception {
    Object[] boxed = new Object[args.length];
    for (int i = 0; i < args.length; i++) boxed[i] = args[i];
    calls++;
    if (calls > MOST_CALLS) throw new IllegalStateException("more calls than are promised");
    int want = (Integer) PLAIN.get(name).invoke(plain, boxed);
    int got;
    try {
      got = (Integer) REAL.get(name).invoke(real, boxed);
    } catch (java.lang.reflect.InvocationTargetException e) {
      throw new IllegalStateException(tail() + name + java.util.Arrays.toString(args) + " threw", e.getCause());
    }
    trace.add(name + java.util.Arrays.toString(args) + " = " + want);
    if (got != want) throw new IllegalStateException(tail() + "answered " + got);
    return got;
  }

  private String tail() {
    StringBuilder s = new StringBuilder();
    for (String t : trace) s.append(t).append('\n');
    return s.toString();
  }

  // mostly within, now and then just beyond, seldom far away
  private int some(int least, int most) {
    int dice = random.nextInt(60);
    if (dice == 0) return least - 1;
    if (dice == 1) return most + 1;
    if (dice == 2) return random.nextBoolean() ? random.nextInt() : Integer.MIN_VALUE;
    if (dice == 3) return random.nextBoolean() ? least : most;
    return least + random.nextInt(most - least + 1);
  }

  private int singerNumber() throws Exception { return some(0, Math.max(0, plain.count(0) - 1)); }
  private int verseNumber() throws Exception { return some(0, Math.max(0, plain.count(1) - 1)); }

  private String part(int deep, boolean law) {
    int dice = random.nextInt(10);
    if (dice < 4) return String.valueOf(random.nextInt(8) == 0 ? random.nextInt(1002) : random.nextInt(60));
    if (dice == 9 && deep < 9) return "[" + sum(deep + 1, law) + "]";
    String[] words = law
        ? new String[] {"skill", "strong", "key", "same", "hour", "wake", "theirs", "day", "mood"}
        : new String[] {"day", "hour", "turn", "done", "last", "wake " + random.nextInt(8), "cows " + random.nextInt(2)};
    return words[random.nextInt(words.length)];
  }

  private String sum(int deep, boolean law) {
    StringBuilder s = new StringBuilder(part(deep, law));
    while (random.nextInt(3) == 0) s.append(" ").append("+-*/%".charAt(random.nextInt(5))).append(" ").append(part(deep, law));
    return s.toString();
  }

  private String test(int deep, boolean law) {
    StringBuilder s = new StringBuilder();
    do {
      if (s.length() > 0) s.append(random.nextBoolean() ? " or " : " and ");
      while (random.nextInt(6) == 0) s.append("not ");
      if (random.nextInt(6) == 0 && deep < 9) s.append("(").append(test(deep + 1, law)).append(")");
      else s.append(sum(deep, law)).append(" ").append("<>=".charAt(random.nextInt(3))).append(" ").append(sum(deep, law));
    } while (random.nextInt(3) == 0);
    return s.toString();
  }

  private String lawClause() {
    String[] kinds = {"lulls", "lulls", "tires", "wakes", "bars"};
    String kind = kinds[random.nextInt(5)];
    String s = kind.equals("bars") ? kind : kind + " " + sum(0, true);
    return random.nextInt(5) < 2 || (kind.equals("bars") && random.nextInt(6) != 0) ? s + " if " + test(0, true) : s;
  }

  private String orderClause() {
    int dice = random.nextInt(10);
    String s;
    if (dice < 2) {
      boolean plainly = random.nextInt(3) != 0;
      s = plainly
          ? "begin " + random.nextInt(8) + " with " + random.nextInt(8) + " for " + (1 + random.nextInt(99))
          : "begin " + sum(0, false) + " with " + sum(0, false) + " for " + sum(0, false);
    } else if (dice < 7) {
      s = "sing " + (random.nextInt(3) != 0 ? String.valueOf(random.nextInt(10)) : sum(0, false));
    } else {
      s = dice < 8 ? "part" : "dawn";
    }
    if (random.nextInt(4) == 0) s += " times " + random.nextInt(22);
    if (random.nextInt(3) == 0) s += " if " + test(0, false);
    if (random.nextInt(3) == 0) s += dice >= 2 && dice < 8 && !s.contains(" if ") ? " if turn > 0 - 1" : "";
    return s;
  }

  private String text(boolean law) {
    StringBuilder s = new StringBuilder();
    do {
      if (s.length() > 0) s.append(random.nextBoolean() ? ";" : " ; ");
      s.append(law ? lawClause() : orderClause());
    } while (random.nextInt(20) < 13 && s.length() < 380);
    if (random.nextInt(12) == 0) {
      int at = random.nextInt(s.length());
      s.setCharAt(at, random.nextInt(4) == 0 ? (char) random.nextInt(256) : " ;([])<+*/%9az".charAt(random.nextInt(14)));
    }
    if (random.nextInt(12) == 0) s.deleteCharAt(random.nextInt(s.length()));
    if (random.nextInt(30) == 0) s.setLength(random.nextInt(s.length() + 1));
    return s.length() > 400 ? s.substring(0, 400) : s.toString();
  }

  private void feed(String text) throws Exception {
    if (plain.count(6) != 0 && random.nextInt(5) != 0) call("end", 0);
    for (int i = 0; i < text.length(); i += 20) {
      int[] five = new int[5];
      for (int k = 0; k < 20; k++) {
        int b = i + k < text.length() ? text.charAt(i + k) : ' ';
        five[k / 4] = five[k / 4] << 8 | b;
      }
      call("feed", five);
    }
    if (random.nextInt(5) != 0) call("end", text.length());
  }

  private void read(boolean law) throws Exception {
    feed(text(law));
    int got = call(law ? "law" : "orders");
    call("fault");
    if (!law) {
      call("stopped");
      for (int i = 0; i < plain.count(0); i++) call("of", i, 0);
    }
    if (law && got >= 0 && random.nextInt(4) != 0) call("force", got);
  }

  private void row() throws Exception {
    StringBuilder s = new StringBuilder();
    int many = random.nextInt(7);
    for (int i = 0; i < many; i++) s.append((char) (random.nextInt(4) == 0 ? random.nextInt(256) : random.nextInt(5)));
    feed(s.toString());
    call("row");
    call("coughs");
  }

  private void look() throws Exception {
    String name = LOOKS[random.nextInt(LOOKS.length)];
    switch (name) {
      case "of": call(name, singerNumber(), some(0, 4)); break;
      case "at": call(name, verseNumber(), some(0, 1)); break;
      case "asks": call(name, verseNumber(), some(0, 2)); break;
      case "wakes": call(name, singerNumber()); break;
      case "duel": call(name, some(0, 5)); break;
      case "count": call(name, some(0, 18)); break;
      case "drawn": call(name, singerNumber(), some(0, 2)); break;
      case "game": if (plain.count(1) <= 5 || random.nextInt(4) == 0) call(name, some(1, plain.count(1) > 6 ? 3 : 4), some(0, 2)); break;
      case "saddle": call(name, singerNumber(), singerNumber(), some(0, 3)); break;
      case "rule": call(name, singerNumber(), singerNumber()); break;
      case "champions": call(name, some(0, 9)); break;
      case "made": call(name, some(1, 36), some(-1, 3)); break;
      case "fits": call(name, some(0, 9), some(0, 2 + Math.max(1, plain.count(0)))); break;
      case "catching": call(name, singerNumber(), some(0, 1)); break;
      case "keep": call(name, singerNumber(), singerNumber(), some(0, 1)); break;
      default: call(name); break;
    }
  }

  private void sight() throws Exception {
    call("sight", verseNumber(), singerNumber(), some(0, 11), some(0, 1), random.nextInt(5) == 0 ? 1 : 0);
    call("fits", some(0, 9), some(0, 10));
  }

  private int wake() {
    int[] most = {9, 60, 300, 999};
    return some(0, most[random.nextInt(4)]);
  }

  private void act() throws Exception {
    int dice = random.nextInt(100);
    if (dice < 4) call("singer", wake(), some(0, 9), some(0, 1));
    else if (dice < 8) call("verse", some(1, 99), some(0, 4));
    else if (dice < 11) call("piece", some(1, random.nextBoolean() ? 5 : 99), some(0, 4), some(1, 9));
    else if (dice < 17) call("hears", singerNumber(), singerNumber(), some(0, 1));
    else if (dice < 18) call("cows", some(0, 1), random.nextBoolean() ? some(0, 9999) : some(9990, 9999));
    else if (dice < 20) call("terms", some(0, 3), random.nextInt(3) == 0 ? some(0, 9) : random.nextInt(6) == 0 ? some(995, 999) : some(0, 120));
    else if (dice < 21) row();
    else if (dice < 24) read(true);
    else if (dice < 28) read(false);
    else if (dice < 30) call("force", some(-1, Math.max(0, plain.count(4) - 1)));
    else if (dice < 42) call("begin", singerNumber(), singerNumber(), some(1, 99));
    else if (dice < 76) call("sing", verseNumber());
    else if (dice < 77) call("part");
    else if (dice < 82) call("dawn");
    else if (dice < 87) call("undo");
    else if (dice < 91) sight();
    else if (dice < 92) call("forget");
    else if (dice < 95) call("decade", some(0, 1000000), some(1, 60));
    else if (dice < 97) call("image", some(0, 1));
    else call("back", some(0, 1));
  }

  // two of unlike CLANS, if there are
  private void beginWell() throws Exception {
    int a = random.nextInt(8);
    int b = random.nextInt(8);
    for (int i = 0; i < 64 && (plain.of(a, 0) <= 0 || plain.of(b, 0) <= 0 || plain.of(a, 2) == plain.of(b, 2)); i++) {
      a = random.nextInt(8);
      b = random.nextInt(8);
    }
    call("begin", a, b, some(1, 99));
  }

  private void duelWell() throws Exception {
    int dice = random.nextInt(20);
    if (plain.duel(0) < 0) {
      if (dice < 4) call("dawn"); else beginWell();
    } else if (dice < 13) {
      call("sing", verseNumber());
    } else if (dice < 15) {
      call("game", some(1, plain.count(1) > 6 ? 3 : 4), some(0, 2));
    } else if (dice < 18) {
      call("asks", verseNumber(), some(0, 2));
    } else if (dice < 19) {
      call("duel", some(0, 5));
    } else {
      call("undo");
    }
  }

  private void orderWell() throws Exception {
    StringBuilder s = new StringBuilder();
    int many = 1 + random.nextInt(8);
    for (int i = 0; i < many; i++) {
      if (i > 0) s.append(";");
      int dice = random.nextInt(8);
      if (dice < 2) s.append("begin ").append(random.nextInt(4)).append(" with ").append(random.nextInt(4)).append(" for ").append(1 + random.nextInt(30)).append(" if turn < 0");
      else if (dice < 6) s.append("sing ").append(random.nextBoolean() ? "done % 3" : String.valueOf(random.nextInt(5))).append(" times ").append(1 + random.nextInt(20)).append(" if hour > 0 - 1 and ").append(test(0, false));
      else s.append(dice < 7 ? "part if turn > 0 - 1" : "dawn times 3 if turn < 0");
    }
    feed(s.length() > 400 ? s.substring(0, 400) : s.toString());
    call("orders");
    call("stopped");
    call("count", 5);
    for (int i = 0; i < plain.count(0); i++) call("of", i, some(0, 4));
    call("duel", some(0, 5));
    if (random.nextInt(4) == 0) for (int i = 0; i < 17; i++) call("undo");
  }

  // a DUEL to its end, so that somebody may be ASLEEP; now and then all are woken
  private void singAsleep() throws Exception {
    if (plain.duel(0) < 0 && random.nextInt(5) == 0) call("dawn");
    if (plain.duel(0) < 0) beginWell();
    for (int i = 0; i < 24 && plain.duel(0) >= 0; i++) call("sing", verseNumber());
  }

  private void sleepWell() throws Exception {
    int dice = random.nextInt(10);
    if (random.nextInt(12) == 0) singAsleep();
    else if (dice < 5) call("hears", singerNumber(), singerNumber(), random.nextInt(5) == 0 ? 0 : 1);
    else if (dice < 6) call("terms", 2, random.nextInt(3) == 0 ? some(0, 999) : 999);
    else if (dice < 7) call("catching", singerNumber(), some(0, 1));
    else call("keep", singerNumber(), singerNumber(), some(0, 1));
  }

  private void seeWell() throws Exception {
    int dice = random.nextInt(12);
    if (dice == 0) {
      call("forget");
    } else if (dice < 4) {
      String[] laws = {
        "lulls wake / ", "tires 1;lulls [wake + theirs] / ", "lulls wake % 7 + ", "lulls 5;tires wake;lulls 9 if wake > ",
        "lulls strong * 3 if day < wake;tires ", "lulls skill + theirs * hour + ", "bars if wake > 1;lulls same * 50 + ",
        "lulls 999 if wake < 9;lulls wake / 3 if wake > 100;wakes "};
      feed(laws[random.nextInt(laws.length)] + (1 + random.nextInt(30)));
      if (call("law") < 0) call("back", 0);
      call("force", plain.count(4) - 1);
    } else if (dice < 7) {
      call("sight", verseNumber(), singerNumber(), some(0, 11), some(0, 1), random.nextInt(7) == 0 ? 1 : 0);
    } else {
      call("fits", some(0, 9), some(0, 2 + Math.max(1, plain.count(0))));
    }
  }

  private void partsWell() throws Exception {
    if (random.nextInt(3) == 0) call("piece", some(1, random.nextBoolean() ? 5 : 99), some(0, 2), some(1, 9));
    else call("made", some(1, 36), some(-1, 3));
  }

  private void lookOrAct() throws Exception {
    if (random.nextInt(3) == 0) look(); else act();
  }

  private void run() throws Exception {
    int singers = random.nextInt(9);
    int verses = random.nextInt(11);
    int theme = random.nextInt(6);
    call("image", 0);
    for (int i = 0; i < singers; i++) call("singer", wake(), some(0, 9), some(0, 1));
    for (int i = 0; i < verses; i++) call("verse", random.nextBoolean() ? some(1, 99) : some(1, 12), some(0, 4));
    if (random.nextInt(3) == 0) call("terms", 1, some(1, 60));
    while (calls < MOST_CALLS - 60) {
      int dice = random.nextInt(4);
      if (theme == 0 || dice == 0) lookOrAct();
      else if (theme == 1) duelWell();
      else if (theme == 2) orderWell();
      else if (theme == 3) sleepWell();
      else if (theme == 4) seeWell();
      else partsWell();
    }
  }

  public static void main(String[] args) throws Exception {
    int runs = args.length > 0 ? Integer.parseInt(args[0]) : 400;
    long from = args.length > 1 ? Long.parseLong(args[1]) : 1;
    long calls = 0;
    for (int i = 0; i < runs; i++) {
      OracleTest test = new OracleTest(from + i);
      try {
        test.run();
      } catch (IllegalStateException e) {
        System.out.println("seed " + (from + i) + ":");
        System.out.println(e.getMessage());
        if (e.getCause() != null) e.getCause().printStackTrace(System.out);
        System.exit(1);
      }
      calls += test.calls;
    }
    System.out.println(runs + " random runs, " + calls + " calls, all answers as the Oracle's");
  }
}
