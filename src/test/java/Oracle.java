import java.util.ArrayList;
import java.util.Comparator;
import java.util.HashMap;
import java.util.List;
import java.util.Map;
import java.util.TreeSet;

/** The document once more, in the slowest and plainest way, for OracleTest to compare with. */
public final class Oracle {
  static final class Broken extends RuntimeException { }

  static final class Fault extends RuntimeException {
    final int at;
    Fault(int at) { this.at = at; }
  }

  static final class Refused extends RuntimeException {
    final int by;
    Refused(int by) { this.by = by; }
  }

  interface Num { long get(Map<String, Integer> words); }
  interface Test { boolean get(Map<String, Integer> words); }

  static final class Clause {
    String kind;
    List<Num> sums = new ArrayList<>();
    int times = 1;
    Test test;
  }

  static final class Singer implements Cloneable {
    int wake, skill, clan, yawns;
    boolean asleep;
    Singer copy() {
      Singer s = new Singer();
      s.wake = wake; s.skill = skill; s.clan = clan; s.yawns = yawns; s.asleep = asleep;
      return s;
    }
  }

  static final class Duel {
    int first, second, stake, hour, turn, key = -1;
    Duel copy() {
      Duel d = new Duel();
      d.first = first; d.second = second; d.stake = stake; d.hour = hour; d.turn = turn; d.key = key;
      return d;
    }
    int other() { return turn == first ? second : first; }
  }

  static final class World {
    List<Singer> singers = new ArrayList<>();
    List<int[]> verses = new ArrayList<>();
    List<int[]> parts = new ArrayList<>();
    TreeSet<Integer> hearing = new TreeSet<>();
    int[] cows = {100, 100};
    int[] terms = {0, 30, 50, 0};
    Duel duel;
    List<int[]> sights = new ArrayList<>();
    List<List<Clause>> laws = new ArrayList<>();
    int force = -1;

    World copy() {
      World w = new World();
      for (Singer s : singers) w.singers.add(s.copy());
      w.verses.addAll(verses);
      w.parts.addAll(parts);
      w.hearing.addAll(hearing);
      w.cows = cows.clone();
      w.terms = terms.clone();
      w.duel = duel == null ? null : duel.copy();
      w.sights.addAll(sights);
      w.laws.addAll(laws);
      w.force = force;
      return w;
    }

    // what undo() brings back
    void takeSinging(World w) {
      singers.clear();
      for (Singer s : w.singers) singers.add(s.copy());
      cows = w.cows.clone();
      terms[0] = w.terms[0];
      duel = w.duel == null ? null : w.duel.copy();
    }

    boolean isSinger(int i) { return i >= 0 && i < singers.size(); }
    boolean isVerse(int i) { return i >= 0 && i < verses.size(); }

    Map<String, Integer> words(int singer, int verse, int hour, int same, int wake, int theirs) {
      Map<String, Integer> m = new HashMap<>();
      m.put("skill", singers.get(singer).skill);
      m.put("strong", verses.get(verse)[0]);
      m.put("key", verses.get(verse)[1]);
      m.put("same", same);
      m.put("hour", hour);
      m.put("wake", wake);
      m.put("theirs", theirs);
      m.put("day", terms[0]);
      m.put("mood", terms[3]);
      return m;
    }

    Map<String, Integer> wordsOfDuel(int verse) {
      Singer hearer = singers.get(duel.other());
      int same = duel.key == verses.get(verse)[1] ? 1 : 0;
      return words(duel.turn, verse, duel.hour, same, hearer.wake, hearer.skill);
    }

    // null: no such CLAUSE HOLDS
    Long told(String kind, Map<String, Integer> words) {
      Long told = null;
      if (force < 0) return null;
      for (Clause c : laws.get(force)) {
        if (!c.kind.equals(kind)) continue;
        try {
          if (c.test != null && !c.test.get(words)) continue;
          told = c.sums.isEmpty() ? Long.valueOf(1) : Long.valueOf(c.sums.get(0).get(words));
        } catch (Broken b) {
          continue;
        }
      }
      return told;
    }

    int lulls(Map<String, Integer> words) {
      Long told = told("lulls", words);
      if (told != null) return (int) Math.max(0, Math.min(999, told));
      return (words.get("strong") + words.get("hour")) * (words.get("same") == 1 ? 2 : 1);
    }

    int tires(Map<String, Integer> words) {
      Long told = told("tires", words);
      return told != null ? (int) Math.max(0, Math.min(99, told)) : words.get("strong") / 4;
    }

    boolean barred(Map<String, Integer> words) { return told("bars", words) != null; }

    int wakes(int singer) {
      Map<String, Integer> m = new HashMap<>();
      for (String s : new String[] {"strong", "key", "same", "hour", "theirs"}) m.put(s, -1);
      m.put("skill", singers.get(singer).skill);
      m.put("wake", singers.get(singer).wake);
      m.put("day", terms[0]);
      m.put("mood", terms[3]);
      Long told = told("wakes", m);
      return told != null ? (int) Math.max(0, Math.min(999, told)) : 100;
    }

    void begin(int first, int second, int stake) {
      if (stake < 1 || stake > 99) throw new Refused(-1);
      if (!isSinger(first) || !isSinger(second)) throw new Refused(-2);
      Singer a = singers.get(first);
      Singer b = singers.get(second);
      if (duel != null || a.clan == b.clan || a.asleep || b.asleep || a.wake == 0 || b.wake == 0) throw new Refused(-3);
      open(first, second, stake);
    }

    void open(int first, int second, int stake) {
      duel = new Duel();
      duel.first = first;
      duel.second = second;
      duel.stake = stake;
      duel.turn = first;
    }

    int sing(int verse) {
      if (!isVerse(verse)) throw new Refused(-2);
      if (duel == null || barred(wordsOfDuel(verse))) throw new Refused(-3);
      Map<String, Integer> words = wordsOfDuel(verse);
      int lull = lulls(words);
      int tire = tires(words);
      Singer who = singers.get(duel.turn);
      Singer hearer = singers.get(duel.other());
      hearer.wake -= lull;
      if (hearer.wake < 0) hearer.wake = 0;
      if (lull >= terms[1]) hearer.yawns++;
      who.wake -= tire;
      if (who.wake < 1) who.wake = 1;
      duel.key = verses.get(verse)[1];
      if (hearer.wake == 0) {
        hearer.asleep = true;
        cows[who.clan] = Math.min(9999, cows[who.clan] + duel.stake);
        cows[hearer.clan] = Math.max(0, cows[hearer.clan] - duel.stake);
        duel = null;
      } else {
        duel.turn = duel.other();
        if (duel.turn == duel.first) duel.hour++;
        if (duel.hour == 12) duel = null;
      }
      return hearer.wake;
    }

    int part() {
      if (duel == null) throw new Refused(-3);
      int stake = duel.stake;
      duel = null;
      return stake;
    }

    int dawn() {
      if (duel != null || terms[0] == 999) throw new Refused(-3);
      terms[0]++;
      int slept = 0;
      for (int i = 0; i < singers.size(); i++) {
        int more = wakes(i);
        Singer s = singers.get(i);
        s.wake = Math.min(999, s.wake + more);
        if (s.asleep) slept++;
        s.asleep = false;
      }
      return slept;
    }
  }

  /** A TEXT by the grammar, TOKEN by TOKEN. */
  static final class Parser {
    final List<String> tokens = new ArrayList<>();
    final List<Integer> places = new ArrayList<>();
    final boolean law;
    int at = 0, parts = 0, deep = 0;

    Parser(String text, boolean law) {
      this.law = law;
      int i = 0;
      while (i < text.length()) {
        char c = text.charAt(i);
        if (c == ' ') { i++; continue; }
        int j = i + 1;
        if (letter(c)) while (j < text.length() && letter(text.charAt(j))) j++;
        else if (digit(c)) while (j < text.length() && digit(text.charAt(j))) j++;
        tokens.add(text.substring(i, j));
        places.add(i);
        i = j;
      }
      tokens.add("");
      places.add(text.length());
    }

    static boolean letter(char c) { return c >= 'a' && c <= 'z'; }
    static boolean digit(char c) { return c >= '0' && c <= '9'; }
    String now() { return tokens.get(at); }
    Fault fault() { return new Fault(places.get(at)); }
    boolean is(String s) { return now().equals(s); }
    boolean skip(String s) { if (is(s)) { at++; return true; } return false; }
    void need(String s) { if (!skip(s)) throw fault(); }

    List<Clause> text() {
      List<Clause> all = new ArrayList<>();
      do {
        if (all.size() == 12) throw fault();
        all.add(law ? lawClause() : orderClause());
      } while (skip(";"));
      if (!is("")) throw fault();
      return all;
    }

    Clause lawClause() {
      Clause c = new Clause();
      if (!is("lulls") && !is("tires") && !is("wakes") && !is("bars")) throw fault();
      c.kind = now();
      at++;
      if (!c.kind.equals("bars")) c.sums.add(sum());
      if (skip("if")) c.test = test();
      return c;
    }

    Clause orderClause() {
      Clause c = new Clause();
      if (!is("begin") && !is("sing") && !is("part") && !is("dawn")) throw fault();
      c.kind = now();
      at++;
      if (c.kind.equals("begin")) {
        c.sums.add(sum());
        need("with");
        c.sums.add(sum());
        need("for");
        c.sums.add(sum());
      } else if (c.kind.equals("sing")) {
        c.sums.add(sum());
      }
      if (skip("times")) c.times = number(1, 20);
      if (skip("if")) c.test = test();
      return c;
    }

    int number(int least, int most) {
      if (is("") || !digit(now().charAt(0))) throw fault();
      java.math.BigInteger v = new java.math.BigInteger(now());
      if (v.compareTo(java.math.BigInteger.valueOf(least)) < 0 || v.compareTo(java.math.BigInteger.valueOf(most)) > 0) {
        throw fault();
      }
      at++;
      return v.intValue();
    }

    Test test() {
      Test left = both();
      while (skip("or")) {
        Test a = left;
        Test b = both();
        left = w -> a.get(w) || b.get(w);
      }
      return left;
    }

    Test both() {
      Test left = plain();
      while (skip("and")) {
        Test a = left;
        Test b = plain();
        left = w -> a.get(w) && b.get(w);
      }
      return left;
    }

    void open() {
      if (deep == 8) throw fault();
      deep++;
      at++;
    }

    Test plain() {
      if (skip("not")) {
        Test inner = plain();
        return w -> !inner.get(w);
      }
      if (is("(")) {
        open();
        Test inner = test();
        need(")");
        deep--;
        return inner;
      }
      Num a = sum();
      String op = now();
      if (!is("<") && !is(">") && !is("=")) throw fault();
      at++;
      Num b = sum();
      return w -> {
        long x = a.get(w);
        long y = b.get(w);
        return op.equals("<") ? x < y : op.equals(">") ? x > y : x == y;
      };
    }

    static long checked(long v) {
      if (Math.abs(v) > 1_000_000_000L) throw new Broken();
      return v;
    }

    Num sum() {
      Num left = term();
      while (is("+") || is("-")) {
        boolean plus = is("+");
        at++;
        Num a = left;
        Num b = term();
        left = w -> {
          long x = a.get(w);
          long y = b.get(w);
          return checked(plus ? x + y : x - y);
        };
      }
      return left;
    }

    Num term() {
      Num left = part();
      while (is("*") || is("/") || is("%")) {
        String op = now();
        at++;
        Num a = left;
        Num b = part();
        left = w -> {
          long x = a.get(w);
          long y = b.get(w);
          if (op.equals("*")) return checked(x * y);
          if (y == 0) throw new Broken();
          return op.equals("/") ? x / y : x % y;
        };
      }
      return left;
    }

    Num part() {
      if (is("[")) {
        open();
        Num inner = sum();
        need("]");
        deep--;
        return inner;
      }
      if (!is("") && digit(now().charAt(0))) {
        if (parts == 50) throw fault();
        int v = number(0, 1000);
        parts++;
        return w -> v;
      }
      String words = law ? " skill strong key same hour wake theirs day mood " : " day hour turn done last wake cows ";
      if (is("") || !letter(now().charAt(0)) || !words.contains(" " + now() + " ") || parts == 50) throw fault();
      parts++;
      String word = now();
      at++;
      String whole = law || !(word.equals("wake") || word.equals("cows")) ? word : word + number(0, word.equals("wake") ? 7 : 1);
      return w -> w.get(whole);
    }
  }

  static final class Done {
    int kind;
    World ahead;
    Done(int kind, World ahead) { this.kind = kind; this.ahead = ahead; }
  }

  private World w = new World();
  private List<Done> undo = new ArrayList<>();
  private final World[] images = new World[2];
  private String tape = "";
  private int fault = -1, stopped = -1, coughs = 0, status = 0;
  private final Map<Integer, Integer> refusals = new HashMap<>();
  private World decadeEnd;
  private int[] decadeLost;

  private interface Act { int run(); }

  private int guarded(Act act) {
    try {
      int answer = act.run();
      status = 0;
      return answer;
    } catch (Refused r) {
      status = r.by;
      refusals.merge(r.by, 1, Integer::sum);
      return r.by;
    }
  }

  private static void range(int v, int least, int most) {
    if (v < least || v > most) throw new Refused(-1);
  }

  private static boolean in(int v, int least, int most) { return v >= least && v <= most; }

  public int singer(int wake, int skill, int clan) {
    return guarded(() -> {
      range(wake, 0, 999);
      range(skill, 0, 9);
      range(clan, 0, 1);
      if (w.singers.size() == 8) throw new Refused(-5);
      Singer s = new Singer();
      s.wake = wake;
      s.skill = skill;
      s.clan = clan;
      w.singers.add(s);
      undo.clear();
      return w.singers.size() - 1;
    });
  }

  public int of(int singer, int what) {
    if (!w.isSinger(singer)) return -1;
    Singer s = w.singers.get(singer);
    int[] all = {s.wake, s.skill, s.clan, s.asleep ? 1 : 0, s.yawns};
    return in(what, 0, 4) ? all[what] : -1;
  }

  public int verse(int strong, int key) {
    return guarded(() -> {
      range(strong, 1, 99);
      range(key, 0, 4);
      if (w.verses.size() == 10) throw new Refused(-5);
      w.verses.add(new int[] {strong, key});
      return w.verses.size() - 1;
    });
  }

  public int at(int verse, int what) { return w.isVerse(verse) && in(what, 0, 1) ? w.verses.get(verse)[what] : -1; }

  public int piece(int strong, int key, int lengthOf) {
    return guarded(() -> {
      range(strong, 1, 99);
      range(key, 0, 4);
      range(lengthOf, 1, 9);
      if (w.parts.size() == 10) throw new Refused(-5);
      w.parts.add(new int[] {strong, key, lengthOf});
      return w.parts.size() - 1;
    });
  }

  public int hears(int one, int other, int is) {
    return guarded(() -> {
      range(is, 0, 1);
      if (one == other) throw new Refused(-1);
      if (!w.isSinger(one) || !w.isSinger(other)) throw new Refused(-2);
      int was = w.hearing.contains(one * 8 + other) ? 1 : 0;
      if (is == 1) w.hearing.add(one * 8 + other); else w.hearing.remove(one * 8 + other);
      return was;
    });
  }

  public int cows(int clan, int value) {
    return guarded(() -> {
      range(clan, 0, 1);
      range(value, 0, 9999);
      int was = w.cows[clan];
      w.cows[clan] = value;
      undo.clear();
      return was;
    });
  }

  public int terms(int what, int value) {
    return guarded(() -> {
      range(what, 0, 3);
      range(value, what == 1 ? 1 : 0, what == 3 ? 9 : 999);
      int was = w.terms[what];
      w.terms[what] = value;
      undo.clear();
      return was;
    });
  }

  public int feed(int a, int b, int c, int d, int e) {
    if (tape.length() > 380) return -1;
    StringBuilder s = new StringBuilder(tape);
    for (int v : new int[] {a, b, c, d, e}) {
      s.append((char) (v >> 24 & 255)).append((char) (v >> 16 & 255)).append((char) (v >> 8 & 255)).append((char) (v & 255));
    }
    tape = s.toString();
    return tape.length();
  }

  public int end(int n) {
    if (n < 0 || n > tape.length()) return -1;
    tape = tape.substring(0, n);
    return n;
  }

  public int row() {
    return guarded(() -> {
      if (tape.isEmpty()) throw new Refused(-6);
      String t = tape;
      tape = "";
      int came = 0;
      coughs = 0;
      for (int i = 0; i < t.length(); i += 2) {
        boolean good = i + 1 < t.length() && in(t.charAt(i), 1, 99) && in(t.charAt(i + 1), 0, 4) && w.verses.size() < 10;
        if (good) {
          w.verses.add(new int[] {t.charAt(i), t.charAt(i + 1)});
          came++;
        } else {
          coughs++;
        }
      }
      return came;
    });
  }

  public int coughs() { return coughs; }

  private List<Clause> parse(boolean law) {
    String t = tape;
    tape = "";
    try {
      fault = -1;
      return new Parser(t, law).text();
    } catch (Fault f) {
      fault = f.at;
      throw new Refused(-6);
    }
  }

  public int law() {
    return guarded(() -> {
      if (w.laws.size() == 6) {
        tape = "";
        throw new Refused(-5);
      }
      w.laws.add(parse(true));
      return w.laws.size() - 1;
    });
  }

  public int orders() {
    return guarded(() -> {
      stopped = -1;
      List<Clause> clauses = parse(false);
      World before = w.copy();
      List<Done> undoBefore = new ArrayList<>(undo);
      int done = 0;
      int last = -1;
      for (int c = 0; c < clauses.size(); c++) {
        Clause clause = clauses.get(c);
        for (int t = 0; t < clause.times; t++) {
          Map<String, Integer> words = orderWords(done, last);
          try {
            if (clause.test != null && !clause.test.get(words)) continue;
          } catch (Broken b) {
            continue;
          }
          try {
            int[] sums = new int[3];
            for (int i = 0; i < clause.sums.size(); i++) sums[i] = (int) clause.sums.get(i).get(words);
            switch (clause.kind) {
              case "begin": act(0, () -> { w.begin(sums[0], sums[1], sums[2]); return 0; }); break;
              case "sing": last = act(1, () -> w.sing(sums[0])); break;
              case "part": act(2, () -> w.part()); break;
              default: act(3, () -> w.dawn()); break;
            }
          } catch (Broken | Refused r) {
            stopped = c;
            w = before;
            undo = undoBefore;
            throw new Refused(-3);
          }
          done++;
        }
      }
      return done;
    });
  }

  private Map<String, Integer> orderWords(int done, int last) {
    Map<String, Integer> m = new HashMap<>();
    m.put("day", w.terms[0]);
    m.put("hour", w.duel == null ? -1 : w.duel.hour);
    m.put("turn", w.duel == null ? -1 : w.duel.turn);
    m.put("done", done);
    m.put("last", last);
    for (int i = 0; i < 8; i++) m.put("wake" + i, w.isSinger(i) ? w.singers.get(i).wake : -1);
    m.put("cows0", w.cows[0]);
    m.put("cows1", w.cows[1]);
    return m;
  }

  public int fault() { return fault; }
  public int stopped() { return stopped; }

  public int force(int law) {
    return guarded(() -> {
      if (law < -1 || law >= w.laws.size()) throw new Refused(-2);
      int was = w.force;
      w.force = law;
      return was;
    });
  }

  public int asks(int verse, int what) {
    if (w.duel == null || !w.isVerse(verse) || !in(what, 0, 2)) return -1;
    Map<String, Integer> words = w.wordsOfDuel(verse);
    return what == 0 ? w.lulls(words) : what == 1 ? w.tires(words) : w.barred(words) ? 1 : 0;
  }

  public int wakes(int singer) { return w.isSinger(singer) ? w.wakes(singer) : -1; }

  private int act(int kind, Act act) {
    World ahead = w.copy();
    int answer = act.run();
    undo.add(new Done(kind, ahead));
    if (undo.size() > 16) undo.remove(0);
    return answer;
  }

  public int begin(int first, int second, int stake) {
    return guarded(() -> act(0, () -> { w.begin(first, second, stake); return 0; }));
  }

  public int duel(int what) {
    if (w.duel == null || !in(what, 0, 5)) return -1;
    Duel d = w.duel;
    return new int[] {d.first, d.second, d.stake, d.hour, d.turn, d.key}[what];
  }

  public int sing(int verse) { return guarded(() -> act(1, () -> w.sing(verse))); }
  public int part() { return guarded(() -> act(2, () -> w.part())); }
  public int dawn() { return guarded(() -> act(3, () -> w.dawn())); }

  public int undo() {
    return guarded(() -> {
      if (undo.isEmpty()) throw new Refused(-3);
      Done d = undo.remove(undo.size() - 1);
      w.takeSinging(d.ahead);
      return d.kind;
    });
  }

  // {in which VERSE somebody sleeps, who, which is sung first}
  private static int[] play(World now, int sung, int n) {
    int[] best = null;
    if (sung == n || now.duel == null) return new int[] {0, -1, -1};
    int me = now.duel.turn;
    int foe = now.duel.other();
    for (int v = 0; v < now.verses.size(); v++) {
      World next = now.copy();
      try {
        int left = next.sing(v);
        int[] got = left == 0 ? new int[] {sung + 1, foe, v} : play(next, sung + 1, n);
        if (best == null || liking(got, me) > liking(best, me)) best = new int[] {got[0], got[1], v};
      } catch (Refused r) {
        continue;
      }
    }
    return best == null ? new int[] {0, -1, -1} : best;
  }

  private static int liking(int[] outcome, int me) {
    return outcome[1] == -1 ? 0 : outcome[1] == me ? outcome[0] - 100 : 100 - outcome[0];
  }

  public int game(int n, int what) {
    if (w.duel == null || !in(n, 1, 4) || !in(what, 0, 2)) return -1000;
    return play(w.copy(), 0, n)[what];
  }

  private interface Choice { int verse(World now, boolean first); }

  private int thought(int first, int second, Choice choice) {
    World now = w.copy();
    int a = now.singers.get(first).wake;
    int b = now.singers.get(second).wake;
    if (a == 0 && b == 0) return 0;
    if (a == 0) return -1;
    if (b == 0) return 1;
    now.open(first, second, 1);
    while (now.duel != null) {
      boolean mine = now.duel.turn == first;
      int verse = choice.verse(now, mine);
      if (verse < 0 || now.barred(now.wordsOfDuel(verse))) return 0;
      if (now.sing(verse) == 0) return mine ? 1 : -1;
    }
    return 0;
  }

  private boolean foes(int a, int b) {
    return w.isSinger(a) && w.isSinger(b) && w.singers.get(a).clan != w.singers.get(b).clan;
  }

  public int saddle(int first, int second, int what) {
    int n = w.verses.size();
    if (!foes(first, second) || n == 0 || !in(what, 0, 3)) return -1000;
    int[][] r = new int[n][n];
    for (int i = 0; i < n; i++) {
      for (int j = 0; j < n; j++) {
        int a = i;
        int b = j;
        r[i][j] = thought(first, second, (now, mine) -> mine ? a : b);
      }
    }
    int[] worst = new int[n];
    int[] best = new int[n];
    for (int i = 0; i < n; i++) {
      worst[i] = 9;
      best[i] = -9;
      for (int j = 0; j < n; j++) {
        worst[i] = Math.min(worst[i], r[i][j]);
        best[i] = Math.max(best[i], r[j][i]);
      }
    }
    int up = 0;
    int down = 0;
    for (int i = 0; i < n; i++) {
      if (worst[i] > worst[up]) up = i;
      if (best[i] < best[down]) down = i;
    }
    return new int[] {worst[up], best[down], up, down}[what];
  }

  public int rule(int first, int second) {
    if (!foes(first, second)) return -1000;
    return thought(first, second, (now, mine) -> {
      int verse = -1;
      int most = -1;
      for (int v = 0; v < now.verses.size(); v++) {
        Map<String, Integer> words = now.wordsOfDuel(v);
        if (!now.barred(words) && now.lulls(words) > most) {
          most = now.lulls(words);
          verse = v;
        }
      }
      return verse;
    });
  }

  public int champions(int what) {
    List<Integer> ours = new ArrayList<>();
    for (int i = 0; i < w.singers.size(); i++) if (w.singers.get(i).clan == 0) ours.add(i);
    if (!in(what, 0, 1) && !ours.contains(what - 2)) return -1;
    int[][] results = new int[8][8];
    for (int i : ours) for (int j = 0; j < w.singers.size(); j++) if (foes(i, j)) results[i][j] = rule(i, j);
    List<int[]> rows = new ArrayList<>();
    rowsOf(ours, new int[ours.size()], 0, rows);
    Comparator<int[]> order = Comparator.comparingInt(row -> -tally(ours, row, results, 1));
    order = order.thenComparingInt(row -> tally(ours, row, results, -1));
    for (int k = 0; k < ours.size(); k++) {
      int place = k;
      order = order.thenComparingInt(row -> row[place]);
    }
    rows.sort(order);
    int[] row = rows.get(0);
    if (what == 0) return tally(ours, row, results, 1);
    if (what == 1) return tally(ours, row, results, -1);
    return row[ours.indexOf(what - 2)];
  }

  private void rowsOf(List<Integer> ours, int[] row, int at, List<int[]> rows) {
    if (at == ours.size()) {
      rows.add(row.clone());
      return;
    }
    row[at] = 100;
    rowsOf(ours, row, at + 1, rows);
    for (int j = 0; j < w.singers.size(); j++) {
      boolean free = w.singers.get(j).clan == 1;
      for (int k = 0; k < at; k++) free &= row[k] != j;
      if (free) {
        row[at] = j;
        rowsOf(ours, row, at + 1, rows);
      }
    }
  }

  private static int tally(List<Integer> ours, int[] row, int[][] results, int of) {
    int many = 0;
    for (int k = 0; k < row.length; k++) if (row[k] != 100 && results[ours.get(k)][row[k]] == of) many++;
    return many;
  }

  private int bestMade;
  private List<Integer> bestRow;

  public int made(int lengthOf, int i) {
    if (!in(lengthOf, 1, 36)) return -1;
    bestMade = -1;
    bestRow = new ArrayList<>();
    allMade(new ArrayList<>(), lengthOf);
    if (i == -1) return bestMade;
    return in(i, 0, bestRow.size() - 1) ? bestRow.get(i) : -1;
  }

  private void allMade(List<Integer> row, int longest) {
    int strong = 0;
    int length = 0;
    for (int k = 0; k < row.size(); k++) {
      int[] p = w.parts.get(row.get(k));
      strong += p[0];
      length += p[2];
      if (k > 0 && w.parts.get(row.get(k - 1))[1] == p[1]) strong += 3;
    }
    if (!row.isEmpty() && length <= longest && (strong > bestMade || (strong == bestMade && ahead(row, bestRow)))) {
      bestMade = strong;
      bestRow = new ArrayList<>(row);
    }
    if (row.size() == 4) return;
    // backwards, so that the order of rows is not by the way they are found
    for (int k = w.parts.size() - 1; k >= 0; k--) {
      if (row.contains(k)) continue;
      row.add(k);
      allMade(row, longest);
      row.remove(row.size() - 1);
    }
  }

  private static boolean ahead(List<Integer> a, List<Integer> b) {
    for (int k = 0; k < a.size() && k < b.size(); k++) {
      if (!a.get(k).equals(b.get(k))) return a.get(k) < b.get(k);
    }
    return a.size() < b.size();
  }

  public int sight(int verse, int singer, int hour, int same, int slept) {
    return guarded(() -> {
      range(hour, 0, 11);
      range(same, 0, 1);
      range(slept, 0, 1);
      if (!w.isVerse(verse) || !w.isSinger(singer)) throw new Refused(-2);
      if (w.sights.size() == 8) throw new Refused(-5);
      w.sights.add(new int[] {verse, singer, hour, same, slept});
      return w.sights.size();
    });
  }

  public int forget() {
    int n = w.sights.size();
    w.sights.clear();
    return n;
  }

  public int fits(int skill, int what) {
    if (!in(skill, 0, 9) || what < 0) return -1;
    List<Integer> fit = new ArrayList<>();
    List<Integer> left = new ArrayList<>();
    for (int wake = 1; wake <= 999; wake++) {
      int now = wake;
      boolean slept = false;
      boolean good = true;
      for (int[] s : w.sights) {
        if (slept) { good = false; break; }
        now = Math.max(0, now - w.lulls(w.words(s[1], s[0], s[2], s[3], now, skill)));
        slept = now == 0;
        if (slept != (s[4] == 1)) { good = false; break; }
      }
      if (!good) continue;
      fit.add(wake);
      if (!slept) left.add(now);
    }
    if (what == 2) return fit.size();
    if (what < 2) return fit.isEmpty() ? -1 : what == 0 ? fit.get(0) : fit.get(fit.size() - 1);
    if (!w.isSinger(what - 3) || left.isEmpty()) return -1;
    int best = -1;
    int least = 9999;
    for (int v = 0; v < w.verses.size(); v++) {
      int slept = 0;
      for (int now : left) if (now - w.lulls(w.words(what - 3, v, 0, 0, now, skill)) <= 0) slept++;
      int more = Math.max(slept, left.size() - slept);
      if (more < least) {
        least = more;
        best = v;
      }
    }
    return best;
  }

  // {bits, rounds}
  private int[] spread(int from, int away) {
    int bits = 1 << from;
    for (int i = 0; i < w.singers.size(); i++) if (w.singers.get(i).asleep) bits |= 1 << i;
    int rounds = 0;
    while (true) {
      int more = 0;
      for (int i = 0; i < w.singers.size(); i++) {
        if ((bits >> i & 1) == 1 || (away >> i & 1) == 1 || w.singers.get(i).wake > w.terms[2]) continue;
        for (int j = 0; j < w.singers.size(); j++) {
          if ((bits >> j & 1) == 1 && (away >> j & 1) == 0 && w.hearing.contains(i * 8 + j)) more |= 1 << i;
        }
      }
      if (more == 0) return new int[] {bits, rounds};
      bits |= more;
      rounds++;
    }
  }

  public int catching(int singer, int what) { return w.isSinger(singer) && in(what, 0, 1) ? spread(singer, 0)[what] : -1; }

  public int keep(int one, int other, int what) {
    if (!w.isSinger(one) || !w.isSinger(other) || one == other || !in(what, 0, 1)) return -1;
    for (int many = 0; many <= 6; many++) {
      for (int away = 0; away < 1 << w.singers.size(); away++) {
        if (Integer.bitCount(away) != many || (away >> one & 1) == 1 || (away >> other & 1) == 1) continue;
        if ((spread(other, away)[0] >> one & 1) == 0) return what == 0 ? many : away;
      }
    }
    return -1;
  }

  private long s;

  private int draw(int m) {
    s = (s * 1103 + 12345) % 1000003;
    return (int) (s % m);
  }

  public int decade(int seed, int n) {
    return guarded(() -> {
      range(seed, 0, 1000000);
      range(n, 1, 60);
      List<List<Integer>> clans = List.of(new ArrayList<>(), new ArrayList<>());
      for (int i = 0; i < w.singers.size(); i++) clans.get(w.singers.get(i).clan).add(i);
      if (w.verses.isEmpty() || clans.get(0).isEmpty() || clans.get(1).isEmpty()) throw new Refused(-3);
      World now = w.copy();
      now.duel = null;
      s = seed;
      int won = 0;
      decadeLost = new int[w.singers.size()];
      for (int day = 0; day < n; day++) {
        int a = clans.get(0).get(draw(clans.get(0).size()));
        int b = clans.get(1).get(draw(clans.get(1).size()));
        int stake = draw(20) + 1;
        if (now.singers.get(a).wake > 0 && now.singers.get(b).wake > 0) {
          now.open(a, b, stake);
          while (now.duel != null) {
            List<Integer> open = new ArrayList<>();
            for (int v = 0; v < now.verses.size(); v++) if (!now.barred(now.wordsOfDuel(v))) open.add(v);
            if (open.isEmpty()) {
              now.duel = null;
              break;
            }
            int hearer = now.duel.other();
            if (now.sing(open.get(draw(open.size()))) == 0) {
              decadeLost[hearer]++;
              if (hearer == b) won++;
            }
          }
        }
        if (now.terms[0] == 999) break;
        now.dawn();
      }
      decadeEnd = now;
      return won;
    });
  }

  public int drawn(int k, int what) {
    if (decadeEnd == null) return -1;
    boolean isOne = in(k, 0, decadeLost.length - 1);
    if (what == 0) return isOne ? decadeEnd.singers.get(k).wake : -1;
    if (what == 1) return in(k, 0, 1) ? decadeEnd.cows[k] : -1;
    return what == 2 && isOne ? decadeLost[k] : -1;
  }

  public int image(int k) {
    return guarded(() -> {
      range(k, 0, 1);
      images[k] = w.copy();
      return 0;
    });
  }

  public int back(int k) {
    return guarded(() -> {
      range(k, 0, 1);
      if (images[k] == null) throw new Refused(-2);
      w = images[k].copy();
      undo.clear();
      return 0;
    });
  }

  public int count(int what) {
    int[] by = {-1, -2, -3, -5, -6};
    if (in(what, 7, 11)) return refusals.getOrDefault(by[what - 7], 0);
    if (in(what, 15, 18)) return w.terms[what - 15];
    switch (what) {
      case 0: return w.singers.size();
      case 1: return w.verses.size();
      case 2: return w.parts.size();
      case 3: return w.sights.size();
      case 4: return w.laws.size();
      case 5: return undo.size();
      case 6: return tape.length();
      case 12: return w.force;
      case 13: return w.cows[0];
      case 14: return w.cows[1];
      default: return -1;
    }
  }

  public int status() { return status; }
}
