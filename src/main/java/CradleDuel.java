import java.util.Arrays;

/** Quarrels sung out across a cradle of coals: the document's face, with the parts that answer for it inside. */
public final class CradleDuel {
  public static final int NONE = -1;
  public static final int NOTHING = -1000;

  private static final int BAD_NUMBER = -1;
  private static final int NO_SUCH = -2;
  private static final int CANT_BE = -3;
  private static final int NO_ROOM = -5;
  private static final int BAD_TEXT = -6;

  private static final int MOST_SINGERS = 8;
  private static final int MOST_VERSES = 10;
  private static final int MOST_PARTS = 10;
  private static final int MOST_SIGHTS = 8;
  private static final int MOST_LAWS = 6;
  private static final int MOST_CLAUSES = 12;
  private static final int MOST_BYTES = 400;
  private static final int MOST_UNDONE = 16;
  private static final int MOST_WAKE = 999;
  private static final int LAST_DAY = 999;
  private static final int HOURS = 12;
  private static final int VERSES_OF_A_DUEL = 24;
  private static final int SIGHT_WIDTH = 5;

  private final Hills hills;
  private final Hills[] images;
  private final boolean[] kept;
  private final Singing singing;
  private final Deeds deeds;
  private final OrderRun orderRun;
  private final Reader reader;
  private final Paper paper;
  private final Decade latest;
  private final Making making;
  private final Strangers strangers;
  private final int[] tape;
  private final int[] refused;
  private int tapeLength;
  private int faultPlace;
  private int coughCount;
  private int lastStatus;

  public CradleDuel() {
    hills = new Hills();
    images = new Hills[] {new Hills(), new Hills()};
    kept = new boolean[2];
    singing = new Singing(hills);
    deeds = new Deeds(hills, singing);
    orderRun = new OrderRun(hills, deeds, singing.sums);
    tape = new int[MOST_BYTES];
    reader = new Reader(tape);
    paper = new Paper(hills, singing);
    latest = new Decade(hills, singing);
    making = new Making(hills);
    strangers = new Strangers(hills, singing);
    refused = new int[5];
    faultPlace = NONE;
  }

  public int singer(int wake, int skill, int clan) {
    int number = hills.addSinger(wake, skill, clan);
    if (number >= 0) {
      deeds.clearUndone();
    }
    return tell(number);
  }

  public int of(int singer, int what) {
    if (!hills.isSinger(singer)) {
      return NONE;
    }
    switch (what) {
      case 0: return hills.stand.wake[singer];
      case 1: return hills.skill[singer];
      case 2: return hills.clan[singer];
      case 3: return hills.stand.asleep[singer];
      case 4: return hills.stand.yawns[singer];
      default: return NONE;
    }
  }

  public int verse(int strong, int key) {
    return tell(hills.addVerse(strong, key));
  }

  public int at(int verse, int what) {
    if (!hills.isVerse(verse) || !within(what, 0, 1)) {
      return NONE;
    }
    return what == 0 ? hills.strong[verse] : hills.key[verse];
  }

  public int piece(int strong, int key, int lengthOf) {
    return tell(hills.addPart(strong, key, lengthOf));
  }

  public int hears(int one, int other, int is) {
    if (one == other || !within(is, 0, 1)) {
      return refuse(BAD_NUMBER);
    }
    if (!hills.isSinger(one) || !hills.isSinger(other)) {
      return refuse(NO_SUCH);
    }
    return accept(hills.setHearing(one, other, is));
  }

  public int cows(int clan, int value) {
    if (!within(clan, 0, 1) || !within(value, 0, Stand.MOST_COWS)) {
      return refuse(BAD_NUMBER);
    }
    int was = hills.stand.cows[clan];
    hills.stand.cows[clan] = value;
    deeds.clearUndone();
    return accept(was);
  }

  public int terms(int what, int value) {
    int least = what == 1 ? 1 : 0;
    int most = what == 3 ? 9 : 999;
    if (!within(what, 0, 3) || !within(value, least, most)) {
      return refuse(BAD_NUMBER);
    }
    int was = hills.termOf(what);
    hills.setTerm(what, value);
    deeds.clearUndone();
    return accept(was);
  }

  public int feed(int a, int b, int c, int d, int e) {
    if (tapeLength + 20 > MOST_BYTES) {
      return NONE;
    }
    pour(a);
    pour(b);
    pour(c);
    pour(d);
    pour(e);
    return tapeLength;
  }

  public int end(int n) {
    if (!within(n, 0, tapeLength)) {
      return NONE;
    }
    tapeLength = n;
    return n;
  }

  public int row() {
    if (tapeLength == 0) {
      return refuse(BAD_TEXT);
    }
    int came = 0;
    int rough = 0;
    for (int i = 0; i < tapeLength; i += 2) {
      if (i + 1 < tapeLength && hills.addVerse(tape[i], tape[i + 1]) >= 0) {
        came++;
      } else {
        rough++;
      }
    }
    tapeLength = 0;
    coughCount = rough;
    return accept(came);
  }

  public int coughs() {
    return coughCount;
  }

  public int law() {
    int length = tapeLength;
    tapeLength = 0;
    if (hills.laws >= MOST_LAWS) {
      return refuse(NO_ROOM);
    }
    faultPlace = reader.read(length, true);
    if (faultPlace != NONE) {
      return refuse(BAD_TEXT);
    }
    return accept(hills.addLaw(reader.script.cut()));
  }

  public int orders() {
    int length = tapeLength;
    tapeLength = 0;
    orderRun.stoppedAt = NONE;
    faultPlace = reader.read(length, false);
    if (faultPlace != NONE) {
      return refuse(BAD_TEXT);
    }
    return tell(orderRun.run(reader.script));
  }

  public int fault() {
    return faultPlace;
  }

  public int stopped() {
    return orderRun.stoppedAt;
  }

  public int force(int law) {
    if (law != NONE && !within(law, 0, hills.laws - 1)) {
      return refuse(NO_SUCH);
    }
    int was = hills.force;
    hills.force = law;
    return accept(was);
  }

  public int asks(int verse, int what) {
    if (!hills.stand.isDuel() || !hills.isVerse(verse)) {
      return NONE;
    }
    switch (what) {
      case 0: return singing.howLulls(hills.stand, verse);
      case 1: return singing.howTires(hills.stand, verse);
      case 2: return singing.isBarred(hills.stand, verse) ? 1 : 0;
      default: return NONE;
    }
  }

  public int wakes(int singer) {
    return hills.isSinger(singer) ? singing.howWakes(hills.stand, singer) : NONE;
  }

  public int begin(int first, int second, int stake) {
    return tell(deeds.openDuel(first, second, stake));
  }

  public int duel(int what) {
    Stand stand = hills.stand;
    if (!stand.isDuel()) {
      return NONE;
    }
    switch (what) {
      case 0: return stand.first;
      case 1: return stand.second;
      case 2: return stand.stake;
      case 3: return stand.hour;
      case 4: return stand.whoSings();
      case 5: return stand.lastKey;
      default: return NONE;
    }
  }

  public int sing(int verse) {
    return tell(deeds.singVerse(verse));
  }

  public int part() {
    return tell(deeds.leaveDuel());
  }

  public int dawn() {
    return tell(deeds.nextDay());
  }

  public int undo() {
    return tell(deeds.takeBack());
  }

  public int game(int n, int what) {
    if (!hills.stand.isDuel() || !within(n, 1, Paper.MOST_AHEAD) || !within(what, 0, 2)) {
      return NOTHING;
    }
    return paper.lookAhead(n, what);
  }

  public int saddle(int first, int second, int what) {
    if (!hills.areFoes(first, second) || hills.verses == 0) {
      return NOTHING;
    }
    switch (what) {
      case 0: return paper.bestOfWorst(first, second, false);
      case 1: return paper.worstOfBest(first, second, false);
      case 2: return paper.bestOfWorst(first, second, true);
      case 3: return paper.worstOfBest(first, second, true);
      default: return NOTHING;
    }
  }

  public int rule(int first, int second) {
    return hills.areFoes(first, second) ? paper.resultByRule(first, second) : NOTHING;
  }

  public int champions(int what) {
    if (!within(what, 0, 1) && !hills.isOfClan(what - 2, 0)) {
      return NONE;
    }
    return paper.chooseChampions(what);
  }

  public int made(int lengthOf, int i) {
    if (!within(lengthOf, 1, 36)) {
      return NONE;
    }
    return making.strongest(lengthOf, i);
  }

  public int sight(int verse, int singer, int hour, int same, int slept) {
    if (!within(hour, 0, HOURS - 1) || !within(same, 0, 1) || !within(slept, 0, 1)) {
      return refuse(BAD_NUMBER);
    }
    if (!hills.isVerse(verse) || !hills.isSinger(singer)) {
      return refuse(NO_SUCH);
    }
    return tell(hills.addSight(verse, singer, hour, same, slept));
  }

  public int forget() {
    int were = hills.sights;
    hills.sights = 0;
    return were;
  }

  public int fits(int skill, int what) {
    if (!within(skill, 0, 9)) {
      return NONE;
    }
    switch (what) {
      case 0: return strangers.leastWake(skill);
      case 1: return strangers.greatestWake(skill);
      case 2: return strangers.howMany(skill);
      default: return hills.isSinger(what - 3) ? strangers.nextVerse(skill, what - 3) : NONE;
    }
  }

  public int catching(int singer, int what) {
    if (!hills.isSinger(singer) || !within(what, 0, 1)) {
      return NONE;
    }
    return what == 0 ? hills.asleepBehind(singer, 0) : hills.roundsBehind(singer);
  }

  public int keep(int one, int other, int what) {
    if (!hills.isSinger(one) || !hills.isSinger(other) || one == other || !within(what, 0, 1)) {
      return NONE;
    }
    int away = hills.ledAway(one, other);
    if (away == NONE) {
      return NONE;
    }
    return what == 0 ? Integer.bitCount(away) : away;
  }

  public int decade(int seed, int n) {
    if (!within(seed, 0, 1000000) || !within(n, 1, 60)) {
      return refuse(BAD_NUMBER);
    }
    if (hills.verses == 0 || hills.howManyOf(0) == 0 || hills.howManyOf(1) == 0) {
      return refuse(CANT_BE);
    }
    return accept(latest.run(seed, n));
  }

  public int drawn(int k, int what) {
    switch (what) {
      case 0: return within(k, 0, latest.singers - 1) ? latest.stand.wake[k] : NONE;
      case 1: return latest.singers > 0 && within(k, 0, 1) ? latest.stand.cows[k] : NONE;
      case 2: return within(k, 0, latest.singers - 1) ? latest.lost[k] : NONE;
      default: return NONE;
    }
  }

  public int image(int k) {
    if (!within(k, 0, 1)) {
      return refuse(BAD_NUMBER);
    }
    images[k].copyFrom(hills);
    kept[k] = true;
    return accept(0);
  }

  public int back(int k) {
    if (!within(k, 0, 1)) {
      return refuse(BAD_NUMBER);
    }
    if (!kept[k]) {
      return refuse(NO_SUCH);
    }
    hills.copyFrom(images[k]);
    deeds.clearUndone();
    return accept(0);
  }

  public int count(int what) {
    switch (what) {
      case 0: return hills.singers;
      case 1: return hills.verses;
      case 2: return hills.parts;
      case 3: return hills.sights;
      case 4: return hills.laws;
      case 5: return deeds.undoable;
      case 6: return tapeLength;
      case 12: return hills.force;
      case 13: return hills.stand.cows[0];
      case 14: return hills.stand.cows[1];
      default: break;
    }
    if (within(what, 7, 11)) {
      return refused[what - 7];
    }
    return within(what, 15, 18) ? hills.termOf(what - 15) : NONE;
  }

  public int status() {
    return lastStatus;
  }

  private static boolean within(int value, int least, int most) {
    return value >= least && value <= most;
  }

  private void pour(int four) {
    for (int shift = 24; shift >= 0; shift -= 8) {
      if (tapeLength < tape.length) {
        tape[tapeLength] = (four >>> shift) & 255;
        tapeLength++;
      }
    }
  }

  private int accept(int answer) {
    lastStatus = 0;
    return answer;
  }

  private int refuse(int why) {
    lastStatus = why;
    // there is no -4, so the two below it move up by one
    int place = why >= CANT_BE ? -why - 1 : -why - 2;
    if (within(place, 0, refused.length - 1)) {
      refused[place]++;
    }
    return why;
  }

  // for the calls whose answers are never below 0 unless they are REFUSED
  private int tell(int answer) {
    return answer < 0 ? refuse(answer) : accept(answer);
  }

  /** All that a DUEL and a DAWN change: the real one, those on paper, and those that undo() goes back to. */
  static final class Stand {
    static final int MOST_COWS = 9999;

    final int[] wake = new int[MOST_SINGERS];
    final int[] asleep = new int[MOST_SINGERS];
    final int[] yawns = new int[MOST_SINGERS];
    final int[] cows = new int[] {100, 100};
    int day;
    int first = NONE;
    int second = NONE;
    int stake;
    int hour;
    boolean secondSings;
    int lastKey = NONE;

    void copyFrom(Stand other) {
      System.arraycopy(other.wake, 0, wake, 0, wake.length);
      System.arraycopy(other.asleep, 0, asleep, 0, asleep.length);
      System.arraycopy(other.yawns, 0, yawns, 0, yawns.length);
      cows[0] = other.cows[0];
      cows[1] = other.cows[1];
      day = other.day;
      first = other.first;
      second = other.second;
      stake = other.stake;
      hour = other.hour;
      secondSings = other.secondSings;
      lastKey = other.lastKey;
    }

    boolean isDuel() {
      return first != NONE;
    }

    int whoSings() {
      return secondSings ? second : first;
    }

    int whoHears() {
      return secondSings ? first : second;
    }

    boolean canBegin(int singer) {
      return asleep[singer] == 0 && wake[singer] > 0;
    }

    void openDuel(int one, int other, int cowsAtStake) {
      first = one;
      second = other;
      stake = cowsAtStake;
      hour = 0;
      secondSings = false;
      lastKey = NONE;
    }

    void closeDuel() {
      first = NONE;
      second = NONE;
    }

    void passTurn() {
      if (secondSings) {
        hour++;
      }
      secondSings = !secondSings;
      if (hour >= HOURS) {
        closeDuel();
      }
    }

    void moveCows(int winner, int loser) {
      cows[winner] = Math.min(MOST_COWS, cows[winner] + stake);
      cows[loser] = Math.max(0, cows[loser] - stake);
    }
  }

  /** All that an IMAGE keeps. */
  static final class Hills {
    int singers;
    final int[] skill = new int[MOST_SINGERS];
    final int[] clan = new int[MOST_SINGERS];
    // bits of those whom each one HEARS
    final int[] hearing = new int[MOST_SINGERS];
    int verses;
    final int[] strong = new int[MOST_VERSES];
    final int[] key = new int[MOST_VERSES];
    int parts;
    final int[] partStrong = new int[MOST_PARTS];
    final int[] partKey = new int[MOST_PARTS];
    final int[] partLong = new int[MOST_PARTS];
    int sights;
    final int[] seen = new int[MOST_SIGHTS * SIGHT_WIDTH];
    int laws;
    final Script[] scripts = new Script[MOST_LAWS];
    int force = NONE;
    int yawn = 30;
    int catchWake = 50;
    int mood;
    final Stand stand = new Stand();

    void copyFrom(Hills other) {
      singers = other.singers;
      System.arraycopy(other.skill, 0, skill, 0, MOST_SINGERS);
      System.arraycopy(other.clan, 0, clan, 0, MOST_SINGERS);
      System.arraycopy(other.hearing, 0, hearing, 0, MOST_SINGERS);
      verses = other.verses;
      System.arraycopy(other.strong, 0, strong, 0, MOST_VERSES);
      System.arraycopy(other.key, 0, key, 0, MOST_VERSES);
      parts = other.parts;
      System.arraycopy(other.partStrong, 0, partStrong, 0, MOST_PARTS);
      System.arraycopy(other.partKey, 0, partKey, 0, MOST_PARTS);
      System.arraycopy(other.partLong, 0, partLong, 0, MOST_PARTS);
      sights = other.sights;
      System.arraycopy(other.seen, 0, seen, 0, seen.length);
      laws = other.laws;
      for (int i = 0; i < MOST_LAWS; i++) {
        scripts[i] = other.scripts[i];
      }
      force = other.force;
      yawn = other.yawn;
      catchWake = other.catchWake;
      mood = other.mood;
      stand.copyFrom(other.stand);
    }

    boolean isSinger(int number) {
      return number >= 0 && number < singers;
    }

    boolean isVerse(int number) {
      return number >= 0 && number < verses;
    }

    boolean isOfClan(int singer, int whose) {
      return isSinger(singer) && clan[singer] == whose;
    }

    boolean areFoes(int one, int other) {
      return isSinger(one) && isSinger(other) && clan[one] != clan[other];
    }

    int howManyOf(int whose) {
      int many = 0;
      for (int i = 0; i < singers; i++) {
        if (clan[i] == whose) {
          many++;
        }
      }
      return many;
    }

    int addSinger(int wake, int skilled, int whose) {
      if (!within(wake, 0, MOST_WAKE) || !within(skilled, 0, 9) || !within(whose, 0, 1)) {
        return BAD_NUMBER;
      }
      if (singers >= MOST_SINGERS) {
        return NO_ROOM;
      }
      int number = singers;
      skill[number] = skilled;
      clan[number] = whose;
      hearing[number] = 0;
      stand.wake[number] = wake;
      stand.asleep[number] = 0;
      stand.yawns[number] = 0;
      singers++;
      return number;
    }

    int addVerse(int strength, int tune) {
      if (!within(strength, 1, 99) || !within(tune, 0, 4)) {
        return BAD_NUMBER;
      }
      if (verses >= MOST_VERSES) {
        return NO_ROOM;
      }
      strong[verses] = strength;
      key[verses] = tune;
      verses++;
      return verses - 1;
    }

    int addPart(int strength, int tune, int length) {
      if (!within(strength, 1, 99) || !within(tune, 0, 4) || !within(length, 1, 9)) {
        return BAD_NUMBER;
      }
      if (parts >= MOST_PARTS) {
        return NO_ROOM;
      }
      partStrong[parts] = strength;
      partKey[parts] = tune;
      partLong[parts] = length;
      parts++;
      return parts - 1;
    }

    int addLaw(Script script) {
      if (laws >= MOST_LAWS) {
        return NO_ROOM;
      }
      scripts[laws] = script;
      laws++;
      return laws - 1;
    }

    int addSight(int verse, int singer, int hour, int same, int slept) {
      if (sights >= MOST_SIGHTS) {
        return NO_ROOM;
      }
      int from = sights * SIGHT_WIDTH;
      seen[from] = verse;
      seen[from + 1] = singer;
      seen[from + 2] = hour;
      seen[from + 3] = same;
      seen[from + 4] = slept;
      sights++;
      return sights;
    }

    int setHearing(int one, int other, int is) {
      int was = (hearing[one] >> other) & 1;
      hearing[one] = is == 1 ? hearing[one] | (1 << other) : hearing[one] & ~(1 << other);
      return was;
    }

    int termOf(int what) {
      switch (what) {
        case 0: return stand.day;
        case 1: return yawn;
        case 2: return catchWake;
        default: return mood;
      }
    }

    void setTerm(int what, int value) {
      switch (what) {
        case 0: stand.day = value; break;
        case 1: yawn = value; break;
        case 2: catchWake = value; break;
        default: mood = value; break;
      }
    }

    // null: none is in FORCE
    Script lawInForce() {
      return force >= 0 && force < laws ? scripts[force] : null;
    }

    // those who sleep already, and the one who falls ASLEEP beside them
    private int asleepWith(int singer) {
      int asleep = 1 << singer;
      for (int i = 0; i < singers; i++) {
        asleep |= stand.asleep[i] << i;
      }
      return asleep;
    }

    private int oneRoundMore(int asleep, int away) {
      int heard = asleep & ~away;
      int more = asleep;
      for (int i = 0; i < singers; i++) {
        boolean isAway = ((away >> i) & 1) == 1;
        if (!isAway && stand.wake[i] <= catchWake && (hearing[i] & heard) != 0) {
          more |= 1 << i;
        }
      }
      return more;
    }

    int asleepBehind(int singer, int away) {
      int asleep = asleepWith(singer);
      for (int round = 0; round < MOST_SINGERS; round++) {
        int more = oneRoundMore(asleep, away);
        if (more == asleep) {
          break;
        }
        asleep = more;
      }
      return asleep;
    }

    int roundsBehind(int singer) {
      int asleep = asleepWith(singer);
      int rounds = 0;
      while (rounds < MOST_SINGERS) {
        int more = oneRoundMore(asleep, 0);
        if (more == asleep) {
          break;
        }
        asleep = more;
        rounds++;
      }
      return rounds;
    }

    // the bits go up, so of as few the lowest come first
    int ledAway(int one, int other) {
      int both = (1 << one) | (1 << other);
      int best = NONE;
      for (int away = 0; away < (1 << singers); away++) {
        boolean fewer = best == NONE || Integer.bitCount(away) < Integer.bitCount(best);
        if ((away & both) == 0 && fewer && ((asleepBehind(other, away) >> one) & 1) == 0) {
          best = away;
        }
      }
      return best;
    }
  }

  /** A TEXT that was read: its CLAUSES, and their SUMS and TESTS as rows of steps for a stack. */
  static final class Script {
    static final int END = 0;
    static final int NUMBER = 1;
    static final int WORD = 2;
    static final int NOT = 3;
    static final int AND = 4;
    static final int OR = 5;
    static final int PLUS = 6;
    static final int MINUS = 7;
    static final int BY = 8;
    static final int OVER = 9;
    static final int REST = 10;
    static final int LESS = 11;
    static final int MORE = 12;
    static final int EQUAL = 13;

    static final int LULLS = 0;
    static final int TIRES = 1;
    static final int WAKES = 2;
    static final int BARS = 3;

    static final int SUMS_OF_A_CLAUSE = 3;

    final int[] op;
    final int[] arg;
    final int[] kind;
    final int[] times;
    // where the TEST and the SUMS of a CLAUSE begin; NONE without
    final int[] test;
    final int[] sum;
    int length;
    int clauses;
    // bits of the kinds of its CLAUSES
    int kinds;
    boolean lullsByWake;

    Script(int steps, int rows) {
      op = new int[steps];
      arg = new int[steps];
      kind = new int[rows];
      times = new int[rows];
      test = new int[rows];
      sum = new int[rows * SUMS_OF_A_CLAUSE];
    }

    void clear() {
      length = 0;
      clauses = 0;
      kinds = 0;
      lullsByWake = false;
    }

    void openClause(int what) {
      if (clauses < kind.length) {
        kind[clauses] = what;
        kinds |= 1 << what;
        times[clauses] = 1;
        test[clauses] = NONE;
        for (int i = 0; i < SUMS_OF_A_CLAUSE; i++) {
          sum[clauses * SUMS_OF_A_CLAUSE + i] = NONE;
        }
        clauses++;
      }
    }

    void put(int step, int with) {
      if (length < op.length) {
        op[length] = step;
        arg[length] = with;
        length++;
      }
    }

    boolean has(int what) {
      return ((kinds >> what) & 1) == 1;
    }

    int sumOf(int clause, int i) {
      int place = clause * SUMS_OF_A_CLAUSE + i;
      return place >= 0 && place < sum.length ? sum[place] : NONE;
    }

    // the reader's own script is used again for the next TEXT
    Script cut() {
      Script copy = new Script(length, clauses);
      System.arraycopy(op, 0, copy.op, 0, length);
      System.arraycopy(arg, 0, copy.arg, 0, length);
      System.arraycopy(kind, 0, copy.kind, 0, clauses);
      System.arraycopy(times, 0, copy.times, 0, clauses);
      System.arraycopy(test, 0, copy.test, 0, clauses);
      System.arraycopy(sum, 0, copy.sum, 0, clauses * SUMS_OF_A_CLAUSE);
      copy.length = length;
      copy.clauses = clauses;
      copy.kinds = kinds;
      copy.lullsByWake = lullsByWake;
      return copy;
    }
  }

  /** Reads both languages from the TAPE into one Script, up to the first TOKEN that can't go on. */
  static final class Reader {
    private static final String LAW_KINDS = "lulls tires wakes bars";
    private static final String LAW_WORDS = "skill strong key same hour wake theirs day mood";
    private static final String ORDER_KINDS = "begin sing part dawn";
    private static final String ORDER_WORDS = "day hour turn done last wake cows";
    private static final int ORDER_WORD_WAKE = 5;
    private static final int ORDER_WORD_COWS = 6;

    private static final int AT_END = 0;
    private static final int LETTERS = 1;
    private static final int DIGITS = 2;
    private static final int SIGN = 3;

    private static final int MOST_WORDS = 50;
    private static final int MOST_DEEP = 8;
    private static final int MOST_NUMBER = 1000;
    private static final int MOST_TIMES = 20;
    private static final int STEPS = 512;

    final Script script = new Script(STEPS, MOST_CLAUSES);
    private final int[] tape;
    private int length;
    private boolean ofLaws;
    private int place;
    private int behind;
    private int token;
    private int number;
    private int words;
    private int deep;
    private int faultAt;

    Reader(int[] tape) {
      this.tape = tape;
    }

    // the FAULT; NONE without
    int read(int howLong, boolean asLaw) {
      script.clear();
      length = Math.min(howLong, tape.length);
      ofLaws = asLaw;
      behind = 0;
      words = 0;
      deep = 0;
      faultAt = NONE;
      step();
      for (int clause = 0; clause <= MOST_CLAUSES && isGood(); clause++) {
        if (clause == MOST_CLAUSES) {
          fail();
          break;
        }
        readClause(clause);
        if (isGood() && token == AT_END) {
          break;
        }
        take(';');
      }
      return faultAt;
    }

    private boolean isGood() {
      return faultAt == NONE;
    }

    // only the first one counts
    private void fail() {
      faultAt = faultAt == NONE ? place : faultAt;
    }

    private static int kindOf(int sign) {
      if (sign >= 'a' && sign <= 'z') {
        return LETTERS;
      }
      return sign >= '0' && sign <= '9' ? DIGITS : SIGN;
    }

    private void step() {
      int i = behind;
      while (i < length && tape[i] == ' ') {
        i++;
      }
      place = i;
      token = i < length ? kindOf(tape[i]) : AT_END;
      number = 0;
      for (int from = i; i < length && (i == from || token != SIGN) && kindOf(tape[i]) == token; i++) {
        // kept small: a row of digits may be longer than any int
        number = token == DIGITS ? Math.min(number * 10 + tape[i] - '0', MOST_NUMBER + 1) : 0;
      }
      behind = i;
    }

    private boolean isSign(int sign) {
      return isGood() && token == SIGN && tape[place] == sign;
    }

    private void take(int sign) {
      if (isSign(sign)) {
        step();
      } else {
        fail();
      }
    }

    // which of the words of a list the TOKEN is
    private int wordAmong(String list) {
      if (!isGood() || token != LETTERS) {
        return NONE;
      }
      int which = 0;
      int from = 0;
      for (int i = 0; i <= list.length(); i++) {
        if (i == list.length() || list.charAt(i) == ' ') {
          if (isToken(list, from, i)) {
            return which;
          }
          which++;
          from = i + 1;
        }
      }
      return NONE;
    }

    private boolean isToken(String list, int from, int to) {
      if (to - from != behind - place) {
        return false;
      }
      for (int i = from; i < to; i++) {
        if (list.charAt(i) != tape[place + i - from]) {
          return false;
        }
      }
      return true;
    }

    private boolean isWord(String word) {
      return wordAmong(word) == 0;
    }

    private void takeWord(String word) {
      if (isWord(word)) {
        step();
      } else {
        fail();
      }
    }

    private void readClause(int clause) {
      int kind = wordAmong(ofLaws ? LAW_KINDS : ORDER_KINDS);
      if (kind == NONE) {
        fail();
        return;
      }
      script.openClause(kind);
      step();
      boolean isBegin = !ofLaws && kind == OrderRun.BEGIN;
      if (ofLaws ? kind != Script.BARS : isBegin || kind == OrderRun.SING) {
        readWholeSum(clause, 0);
      }
      if (isBegin) {
        takeWord("with");
        readWholeSum(clause, 1);
        takeWord("for");
        readWholeSum(clause, 2);
      }
      if (!ofLaws) {
        readTimes(clause);
      }
      if (isWord("if")) {
        step();
        script.test[clause] = script.length;
        readTest();
        script.put(Script.END, 0);
      }
    }

    private void readTimes(int clause) {
      if (!isWord("times")) {
        return;
      }
      step();
      if (token != DIGITS || !within(number, 1, MOST_TIMES)) {
        fail();
        return;
      }
      script.times[clause] = number;
      step();
    }

    private void readWholeSum(int clause, int i) {
      script.sum[clause * Script.SUMS_OF_A_CLAUSE + i] = script.length;
      readSum();
      script.put(Script.END, 0);
    }

    private void readTest() {
      readBoth();
      for (int i = 0; i < MOST_BYTES && isWord("or"); i++) {
        int jump = script.length;
        script.put(Script.OR, 0);
        step();
        readBoth();
        landHere(jump);
      }
    }

    private void readBoth() {
      readPlain();
      for (int i = 0; i < MOST_BYTES && isWord("and"); i++) {
        int jump = script.length;
        script.put(Script.AND, 0);
        step();
        readPlain();
        landHere(jump);
      }
    }

    private void landHere(int jump) {
      if (jump < script.arg.length) {
        script.arg[jump] = script.length;
      }
    }

    private void readPlain() {
      boolean turned = false;
      for (int i = 0; i < MOST_BYTES && isWord("not"); i++) {
        turned = !turned;
        step();
      }
      if (isSign('(')) {
        if (goDeeper()) {
          readTest();
          take(')');
          deep--;
        }
      } else {
        readSum();
        int joint = isSign('<') ? Script.LESS : isSign('>') ? Script.MORE : Script.EQUAL;
        if (joint == Script.EQUAL && !isSign('=')) {
          fail();
          return;
        }
        step();
        readSum();
        script.put(joint, 0);
      }
      if (turned) {
        script.put(Script.NOT, 0);
      }
    }

    private boolean goDeeper() {
      if (deep >= MOST_DEEP) {
        fail();
        return false;
      }
      deep++;
      step();
      return true;
    }

    private void readSum() {
      readTerm();
      for (int i = 0; i < MOST_BYTES && (isSign('+') || isSign('-')); i++) {
        int joint = isSign('+') ? Script.PLUS : Script.MINUS;
        step();
        readTerm();
        script.put(joint, 0);
      }
    }

    private void readTerm() {
      readPart();
      for (int i = 0; i < MOST_BYTES && (isSign('*') || isSign('/') || isSign('%')); i++) {
        int joint = isSign('*') ? Script.BY : isSign('/') ? Script.OVER : Script.REST;
        step();
        readPart();
        script.put(joint, 0);
      }
    }

    private void readPart() {
      if (isSign('[')) {
        if (goDeeper()) {
          readSum();
          take(']');
          deep--;
        }
        return;
      }
      boolean isNumber = isGood() && token == DIGITS && number <= MOST_NUMBER;
      int word = wordAmong(ofLaws ? LAW_WORDS : ORDER_WORDS);
      if ((!isNumber && word == NONE) || words >= MOST_WORDS) {
        fail();
        return;
      }
      words++;
      if (isNumber) {
        script.put(Script.NUMBER, number);
        step();
      } else {
        step();
        script.put(Script.WORD, ofLaws ? noteLawWord(word) : readOwner(word));
      }
    }

    private int noteLawWord(int word) {
      int clause = script.clauses - 1;
      if (word == Singing.WAKE && clause >= 0 && script.kind[clause] == Script.LULLS) {
        script.lullsByWake = true;
      }
      return word;
    }

    // "wake" and "cows" tell whose behind them: each owner has a place of its own among the words
    private int readOwner(int word) {
      boolean ofSinger = word == ORDER_WORD_WAKE;
      if (!ofSinger && word != ORDER_WORD_COWS) {
        return word;
      }
      if (token != DIGITS || number > (ofSinger ? MOST_SINGERS - 1 : 1)) {
        fail();
        return word;
      }
      int owner = number;
      step();
      return (ofSinger ? OrderRun.WAKE : OrderRun.COWS) + owner;
    }
  }

  /** Works SUMS and TESTS out, by what the words stand for just now. */
  static final class Sums {
    private static final long BEYOND = 1000000000L;

    final int[] word = new int[OrderRun.WORDS];
    boolean broken;
    // two values wait at most in each of 8 brackets, and three outside them
    private final int[] stack = new int[32];

    // TESTS answer 1 and 0; what is BROKEN answers 0
    int workOut(Script script, int from) {
      broken = true;
      int top = -1;
      for (int i = from; i >= 0 && i < script.length; i++) {
        int step = script.op[i];
        int with = script.arg[i];
        if (step == Script.NUMBER || step == Script.WORD) {
          top++;
          if (top >= stack.length || with < 0 || (step == Script.WORD && with >= word.length)) {
            return 0;
          }
          stack[top] = step == Script.NUMBER ? with : word[with];
          continue;
        }
        if (top < 0) {
          return 0;
        }
        if (step == Script.END) {
          broken = false;
          return stack[top];
        }
        if (step == Script.NOT) {
          stack[top] = 1 - stack[top];
          continue;
        }
        if (step == Script.AND || step == Script.OR) {
          if ((stack[top] == 0) == (step == Script.OR)) {
            top--;
          } else if (with > i) {
            // nothing up to there can matter any more
            i = with - 1;
          }
          continue;
        }
        if (top < 1) {
          return 0;
        }
        long left = stack[top - 1];
        long right = stack[top];
        if (right == 0 && (step == Script.OVER || step == Script.REST)) {
          return 0;
        }
        long got;
        switch (step) {
          case Script.PLUS: got = left + right; break;
          case Script.MINUS: got = left - right; break;
          case Script.BY: got = left * right; break;
          case Script.OVER: got = left / right; break;
          case Script.REST: got = left % right; break;
          case Script.LESS: got = left < right ? 1 : 0; break;
          case Script.MORE: got = left > right ? 1 : 0; break;
          default: got = left == right ? 1 : 0; break;
        }
        if (got > BEYOND || got < -BEYOND) {
          return 0;
        }
        top--;
        stack[top] = (int) got;
      }
      return 0;
    }
  }

  /** What the LAW in FORCE tells, and a VERSE sung or a DAWN on any Stand, real or on paper. */
  static final class Singing {
    static final int SKILL = 0;
    static final int STRONG = 1;
    static final int KEY = 2;
    static final int SAME = 3;
    static final int HOUR = 4;
    static final int WAKE = 5;
    static final int THEIRS = 6;
    static final int DAY = 7;
    static final int MOOD = 8;

    private static final int MOST_TIRED = 99;
    private static final int WAKES_WITHOUT = 100;

    final Sums sums = new Sums();
    private final Hills hills;
    // what the latest CLAUSE that HOLDS told
    private int told;

    Singing(Hills hills) {
      this.hills = hills;
    }

    int howLulls(Stand stand, int verse) {
      setWords(stand, verse);
      return lullByWords();
    }

    int howTires(Stand stand, int verse) {
      setWords(stand, verse);
      return tireByWords();
    }

    boolean isBarred(Stand stand, int verse) {
      Script law = hills.lawInForce();
      if (law == null || !law.has(Script.BARS)) {
        return false;
      }
      setWords(stand, verse);
      return isTold(Script.BARS);
    }

    int howWakes(Stand stand, int singer) {
      int[] word = sums.word;
      word[SKILL] = hills.skill[singer];
      word[STRONG] = NONE;
      word[KEY] = NONE;
      word[SAME] = NONE;
      word[HOUR] = NONE;
      word[WAKE] = stand.wake[singer];
      word[THEIRS] = NONE;
      word[DAY] = stand.day;
      word[MOOD] = hills.mood;
      return isTold(Script.WAKES) ? nearest(told, MOST_WAKE) : WAKES_WITHOUT;
    }

    // a VERSE that a stranger of that SKILL hears: lullsAt() is of that one then
    void setStranger(int verse, int singer, int hour, int same, int skill) {
      setVerse(verse, singer, hour, same);
      sums.word[THEIRS] = skill;
      sums.word[DAY] = hills.stand.day;
    }

    int lullsAt(int wake) {
      sums.word[WAKE] = wake;
      return lullByWords();
    }

    boolean isLullByWake() {
      Script law = hills.lawInForce();
      return law != null && law.lullsByWake;
    }

    // only in a DUEL, with a VERSE that is not BARRED: WAKE of who heard it
    int singOn(Stand stand, int verse) {
      setWords(stand, verse);
      int lull = lullByWords();
      int tire = tireByWords();
      int singer = stand.whoSings();
      int hearer = stand.whoHears();
      stand.wake[hearer] = Math.max(0, stand.wake[hearer] - lull);
      if (lull >= hills.yawn) {
        stand.yawns[hearer]++;
      }
      stand.wake[singer] = Math.max(1, stand.wake[singer] - tire);
      stand.lastKey = hills.key[verse];
      if (stand.wake[hearer] == 0) {
        stand.asleep[hearer] = 1;
        stand.moveCows(hills.clan[singer], hills.clan[hearer]);
        stand.closeDuel();
      } else {
        stand.passTurn();
      }
      return stand.wake[hearer];
    }

    // not behind the last DAY: how many were ASLEEP
    int dawnOn(Stand stand) {
      int slept = 0;
      stand.day++;
      for (int i = 0; i < hills.singers; i++) {
        slept += stand.asleep[i];
        stand.wake[i] = Math.min(MOST_WAKE, stand.wake[i] + howWakes(stand, i));
        stand.asleep[i] = 0;
      }
      return slept;
    }

    private void setWords(Stand stand, int verse) {
      int hearer = stand.whoHears();
      setVerse(verse, stand.whoSings(), stand.hour, hills.key[verse] == stand.lastKey ? 1 : 0);
      sums.word[WAKE] = stand.wake[hearer];
      sums.word[THEIRS] = hills.skill[hearer];
      sums.word[DAY] = stand.day;
    }

    private void setVerse(int verse, int singer, int hour, int same) {
      int[] word = sums.word;
      word[SKILL] = hills.skill[singer];
      word[STRONG] = hills.strong[verse];
      word[KEY] = hills.key[verse];
      word[SAME] = same;
      word[HOUR] = hour;
      word[MOOD] = hills.mood;
    }

    private int lullByWords() {
      if (isTold(Script.LULLS)) {
        return nearest(told, MOST_WAKE);
      }
      int plain = sums.word[STRONG] + sums.word[HOUR];
      return sums.word[SAME] == 1 ? 2 * plain : plain;
    }

    private int tireByWords() {
      return isTold(Script.TIRES) ? nearest(told, MOST_TIRED) : sums.word[STRONG] / 4;
    }

    // from behind: the last CLAUSE that HOLDS is the one that tells
    private boolean isTold(int kind) {
      Script law = hills.lawInForce();
      if (law == null || !law.has(kind)) {
        return false;
      }
      for (int i = law.clauses - 1; i >= 0; i--) {
        int test = law.test[i];
        if (law.kind[i] == kind && (test == NONE || sums.workOut(law, test) != 0)) {
          int sum = law.sumOf(i, 0);
          told = sum == NONE ? 0 : sums.workOut(law, sum);
          if (sum == NONE || !sums.broken) {
            return true;
          }
        }
      }
      return false;
    }

    private static int nearest(int value, int most) {
      return Math.max(0, Math.min(most, value));
    }
  }

  /** begin(), sing(), part(), dawn() on the real Stand, and what it was ahead of the latest of them. */
  static final class Deeds {
    private static final int BEGUN = 0;
    private static final int SUNG = 1;
    private static final int PARTED = 2;
    private static final int DAWNED = 3;

    int undoable;
    private final Hills hills;
    private final Singing singing;
    private final Stand[] ahead = new Stand[MOST_UNDONE];
    private final int[] deed = new int[MOST_UNDONE];
    private int oldest;
    private final Stand savedStand = new Stand();
    private final Stand[] savedAhead = new Stand[MOST_UNDONE];
    private final int[] savedDeed = new int[MOST_UNDONE];
    private int savedOldest;
    private int savedUndoable;

    Deeds(Hills hills, Singing singing) {
      this.hills = hills;
      this.singing = singing;
      for (int i = 0; i < MOST_UNDONE; i++) {
        ahead[i] = new Stand();
        savedAhead[i] = new Stand();
      }
    }

    int openDuel(int first, int second, int stake) {
      if (!within(stake, 1, 99)) {
        return BAD_NUMBER;
      }
      if (!hills.isSinger(first) || !hills.isSinger(second)) {
        return NO_SUCH;
      }
      Stand stand = hills.stand;
      if (stand.isDuel() || !hills.areFoes(first, second) || !stand.canBegin(first) || !stand.canBegin(second)) {
        return CANT_BE;
      }
      remember(BEGUN);
      stand.openDuel(first, second, stake);
      return 0;
    }

    int singVerse(int verse) {
      if (!hills.isVerse(verse)) {
        return NO_SUCH;
      }
      if (!hills.stand.isDuel() || singing.isBarred(hills.stand, verse)) {
        return CANT_BE;
      }
      remember(SUNG);
      return singing.singOn(hills.stand, verse);
    }

    int leaveDuel() {
      if (!hills.stand.isDuel()) {
        return CANT_BE;
      }
      remember(PARTED);
      hills.stand.closeDuel();
      return hills.stand.stake;
    }

    int nextDay() {
      if (hills.stand.isDuel() || hills.stand.day >= LAST_DAY) {
        return CANT_BE;
      }
      remember(DAWNED);
      return singing.dawnOn(hills.stand);
    }

    int takeBack() {
      if (undoable == 0) {
        return CANT_BE;
      }
      undoable--;
      int place = (oldest + undoable) % MOST_UNDONE;
      hills.stand.copyFrom(ahead[place]);
      return deed[place];
    }

    void clearUndone() {
      undoable = 0;
    }

    private void remember(int what) {
      if (undoable == MOST_UNDONE) {
        oldest = (oldest + 1) % MOST_UNDONE;
        undoable--;
      }
      int place = (oldest + undoable) % MOST_UNDONE;
      ahead[place].copyFrom(hills.stand);
      deed[place] = what;
      undoable++;
    }

    void save() {
      savedStand.copyFrom(hills.stand);
      savedOldest = oldest;
      savedUndoable = undoable;
      for (int i = 0; i < MOST_UNDONE; i++) {
        savedAhead[i].copyFrom(ahead[i]);
        savedDeed[i] = deed[i];
      }
    }

    void restore() {
      hills.stand.copyFrom(savedStand);
      oldest = savedOldest;
      undoable = savedUndoable;
      for (int i = 0; i < MOST_UNDONE; i++) {
        ahead[i].copyFrom(savedAhead[i]);
        deed[i] = savedDeed[i];
      }
    }
  }

  /** Runs ORDERS wholly or not at all. */
  static final class OrderRun {
    static final int BEGIN = 0;
    static final int SING = 1;
    static final int PART = 2;

    static final int DAY = 0;
    static final int HOUR = 1;
    static final int TURN = 2;
    static final int DONE = 3;
    static final int LAST = 4;
    static final int WAKE = 5;
    static final int COWS = WAKE + MOST_SINGERS;
    static final int WORDS = COWS + 2;

    int stoppedAt = NONE;
    private final Hills hills;
    private final Deeds deeds;
    private final Sums sums;
    private int done;
    private int last;

    OrderRun(Hills hills, Deeds deeds, Sums sums) {
      this.hills = hills;
      this.deeds = deeds;
      this.sums = sums;
    }

    int run(Script script) {
      deeds.save();
      done = 0;
      last = NONE;
      for (int clause = 0; clause < script.clauses; clause++) {
        for (int time = 0; time < script.times[clause]; time++) {
          setWords();
          int test = script.test[clause];
          if (test != NONE && sums.workOut(script, test) == 0) {
            continue;
          }
          if (doDeed(script, clause) < 0) {
            stoppedAt = clause;
            deeds.restore();
            return CANT_BE;
          }
          done++;
        }
      }
      return done;
    }

    private int doDeed(Script script, int clause) {
      int kind = script.kind[clause];
      if (kind == BEGIN) {
        return doBegin(script, clause);
      }
      if (kind == SING) {
        int verse = sums.workOut(script, script.sumOf(clause, 0));
        if (sums.broken) {
          return CANT_BE;
        }
        last = deeds.singVerse(verse);
        return last;
      }
      return kind == PART ? deeds.leaveDuel() : deeds.nextDay();
    }

    private int doBegin(Script script, int clause) {
      int first = sums.workOut(script, script.sumOf(clause, 0));
      boolean broken = sums.broken;
      int second = sums.workOut(script, script.sumOf(clause, 1));
      broken |= sums.broken;
      int stake = sums.workOut(script, script.sumOf(clause, 2));
      broken |= sums.broken;
      return broken ? CANT_BE : deeds.openDuel(first, second, stake);
    }

    private void setWords() {
      Stand stand = hills.stand;
      int[] word = sums.word;
      word[DAY] = stand.day;
      word[HOUR] = stand.isDuel() ? stand.hour : NONE;
      word[TURN] = stand.isDuel() ? stand.whoSings() : NONE;
      word[DONE] = done;
      word[LAST] = last;
      for (int i = 0; i < MOST_SINGERS; i++) {
        word[WAKE + i] = hills.isSinger(i) ? stand.wake[i] : NONE;
      }
      word[COWS] = stand.cows[0];
      word[COWS + 1] = stand.cows[1];
    }
  }

  /** DUELS that are only thought of: GAMES, SADDLES, the RULE, CHAMPIONS. */
  static final class Paper {
    static final int MOST_AHEAD = 4;
    private static final int NOBODY = 100;
    // above any number of VERSES that are looked ahead
    private static final int SOON = 100;

    private final Hills hills;
    private final Singing singing;
    private final Stand[] ahead = new Stand[MOST_AHEAD + 1];
    private int sungAhead;
    private int firstVerse;
    private final Stand bout = new Stand();
    private final int[][] results = new int[MOST_SINGERS][MOST_SINGERS];
    private final int[] chosen = new int[MOST_SINGERS];
    private final int[] best = new int[MOST_SINGERS];
    private int mostWon;
    private int fewestLost;

    Paper(Hills hills, Singing singing) {
      this.hills = hills;
      this.singing = singing;
      for (int i = 0; i < ahead.length; i++) {
        ahead[i] = new Stand();
      }
    }

    int lookAhead(int n, int what) {
      sungAhead = n;
      firstVerse = NONE;
      ahead[0].copyFrom(hills.stand);
      int worth = worthOf(0, -2 * SOON, 2 * SOON);
      if (what == 0) {
        return worth == 0 ? 0 : SOON + 1 - Math.abs(worth);
      }
      if (what == 1) {
        return worth == 0 ? NONE : worth > 0 ? hills.stand.whoHears() : hills.stand.whoSings();
      }
      return firstVerse;
    }

    // for who has the turn: above 0, the other one sleeps; the further from 0, the sooner.
    // What is worth no more than least, or most and more, need not be told exactly.
    private int worthOf(int sung, int least, int most) {
      if (sung >= sungAhead || sung >= MOST_AHEAD || !ahead[sung].isDuel()) {
        return 0;
      }
      Stand now = ahead[sung];
      Stand next = ahead[sung + 1];
      int verse = NONE;
      int worth = 0;
      for (int i = 0; i < hills.verses && (verse == NONE || worth < most); i++) {
        if (singing.isBarred(now, i)) {
          continue;
        }
        next.copyFrom(now);
        int beat = verse == NONE ? least : Math.max(least, worth);
        int got = singing.singOn(next, i) == 0 ? SOON - sung : -worthOf(sung + 1, -most, -beat);
        if (verse == NONE || got > worth) {
          verse = i;
          worth = got;
        }
      }
      if (sung == 0) {
        firstVerse = verse;
      }
      return worth;
    }

    int bestOfWorst(int first, int second, boolean asVerse) {
      int most = -2;
      int verse = NONE;
      for (int i = 0; i < hills.verses && most < 1; i++) {
        int worst = 1;
        for (int j = 0; j < hills.verses && worst > most; j++) {
          worst = Math.min(worst, resultByVerses(first, second, i, j));
        }
        if (worst > most) {
          most = worst;
          verse = i;
        }
      }
      return asVerse ? verse : most;
    }

    int worstOfBest(int first, int second, boolean asVerse) {
      int least = 2;
      int verse = NONE;
      for (int j = 0; j < hills.verses && least > -1; j++) {
        int best = -1;
        for (int i = 0; i < hills.verses && best < least; i++) {
          best = Math.max(best, resultByVerses(first, second, i, j));
        }
        if (best < least) {
          least = best;
          verse = j;
        }
      }
      return asVerse ? verse : least;
    }

    private boolean openBout(int first, int second) {
      bout.copyFrom(hills.stand);
      bout.openDuel(first, second, 1);
      return bout.wake[first] > 0 && bout.wake[second] > 0;
    }

    // one with WAKE 0 sleeps at once; both at once: a DRAW
    private int resultAtOnce(int first, int second) {
      return (bout.wake[first] > 0 ? 1 : 0) - (bout.wake[second] > 0 ? 1 : 0);
    }

    private int resultByVerses(int first, int second, int firstSings, int secondSings) {
      if (!openBout(first, second)) {
        return resultAtOnce(first, second);
      }
      for (int i = 0; i < VERSES_OF_A_DUEL && bout.isDuel(); i++) {
        boolean ofSecond = bout.secondSings;
        int verse = ofSecond ? secondSings : firstSings;
        if (singing.isBarred(bout, verse)) {
          return 0;
        }
        if (singing.singOn(bout, verse) == 0) {
          return ofSecond ? -1 : 1;
        }
      }
      return 0;
    }

    int resultByRule(int first, int second) {
      if (!openBout(first, second)) {
        return resultAtOnce(first, second);
      }
      for (int i = 0; i < VERSES_OF_A_DUEL && bout.isDuel(); i++) {
        boolean ofSecond = bout.secondSings;
        int verse = strongestLull();
        if (verse == NONE) {
          return 0;
        }
        if (singing.singOn(bout, verse) == 0) {
          return ofSecond ? -1 : 1;
        }
      }
      return 0;
    }

    private int strongestLull() {
      int verse = NONE;
      int most = NONE;
      for (int i = 0; i < hills.verses; i++) {
        if (!singing.isBarred(bout, i)) {
          int lull = singing.howLulls(bout, i);
          if (lull > most) {
            most = lull;
            verse = i;
          }
        }
      }
      return verse;
    }

    int chooseChampions(int what) {
      for (int i = 0; i < hills.singers; i++) {
        for (int j = 0; j < hills.singers; j++) {
          results[i][j] = hills.clan[i] == 0 && hills.clan[j] == 1 ? resultByRule(i, j) : 0;
        }
      }
      mostWon = NONE;
      fewestLost = 0;
      chooseFrom(0, 0, 0, 0);
      if (what < 2) {
        return what == 0 ? mostWon : fewestLost;
      }
      return what - 2 < MOST_SINGERS ? best[what - 2] : NONE;
    }

    // rows come in their order, so only a better one takes the place of what was found
    private void chooseFrom(int singer, int taken, int won, int lost) {
      if (singer >= hills.singers) {
        if (won > mostWon || (won == mostWon && lost < fewestLost)) {
          mostWon = won;
          fewestLost = lost;
          System.arraycopy(chosen, 0, best, 0, MOST_SINGERS);
        }
        return;
      }
      if (hills.clan[singer] == 0) {
        for (int foe = 0; foe < hills.singers; foe++) {
          if (hills.clan[foe] == 1 && ((taken >> foe) & 1) == 0) {
            int result = results[singer][foe];
            chosen[singer] = foe;
            chooseFrom(singer + 1, taken | (1 << foe), won + (result > 0 ? 1 : 0), lost + (result < 0 ? 1 : 0));
          }
        }
      }
      chosen[singer] = NOBODY;
      chooseFrom(singer + 1, taken, won, lost);
    }
  }

  /** A DECADE on paper; the latest one stays to be asked. */
  static final class Decade {
    final Stand stand = new Stand();
    final int[] lost = new int[MOST_SINGERS];
    // 0 ahead of any
    int singers;
    private final Hills hills;
    private final Singing singing;
    private final int[] open = new int[MOST_VERSES];
    private int seed;

    Decade(Hills hills, Singing singing) {
      this.hills = hills;
      this.singing = singing;
    }

    int run(int from, int days) {
      seed = from;
      singers = hills.singers;
      stand.copyFrom(hills.stand);
      stand.closeDuel();
      Arrays.fill(lost, 0);
      int won = 0;
      for (int day = 0; day < days; day++) {
        won += singDay();
        if (stand.day >= LAST_DAY) {
          break;
        }
        singing.dawnOn(stand);
      }
      return won;
    }

    // of at least one
    private int draw(int most) {
      seed = (int) ((seed * 1103L + 12345L) % 1000003L);
      return most > 0 ? seed % most : 0;
    }

    // 1, if CLAN 0 won
    private int singDay() {
      int first = singerOf(0, draw(hills.howManyOf(0)));
      int second = singerOf(1, draw(hills.howManyOf(1)));
      int stake = draw(20) + 1;
      if (first == NONE || second == NONE || stand.wake[first] == 0 || stand.wake[second] == 0) {
        return 0;
      }
      stand.openDuel(first, second, stake);
      for (int i = 0; i < VERSES_OF_A_DUEL && stand.isDuel(); i++) {
        int hearer = stand.whoHears();
        int many = listOpen();
        if (many == 0) {
          break;
        }
        if (singing.singOn(stand, open[draw(many)]) == 0) {
          lost[hearer]++;
          return hearer == second ? 1 : 0;
        }
      }
      stand.closeDuel();
      return 0;
    }

    private int singerOf(int clan, int which) {
      int left = which;
      for (int i = 0; i < hills.singers; i++) {
        if (hills.clan[i] == clan) {
          if (left == 0) {
            return i;
          }
          left--;
        }
      }
      return NONE;
    }

    private int listOpen() {
      int many = 0;
      for (int i = 0; i < hills.verses; i++) {
        if (!singing.isBarred(stand, i)) {
          open[many] = i;
          many++;
        }
      }
      return many;
    }
  }

  /** The strongest VERSE that can be MADE of PARTS. */
  static final class Making {
    private static final int MOST_JOINED = 4;
    private static final int NEIGHBOURS = 3;

    private final Hills hills;
    private final int[] joined = new int[MOST_JOINED];
    private final int[] best = new int[MOST_JOINED];
    private int bestLength;
    private int bestStrong;

    Making(Hills hills) {
      this.hills = hills;
    }

    int strongest(int longest, int i) {
      bestLength = 0;
      bestStrong = NONE;
      joinMore(0, 0, 0, longest);
      if (i == NONE) {
        return bestStrong;
      }
      return within(i, 0, bestLength - 1) ? best[i] : NONE;
    }

    // rows come in their order, one that begins another ahead of that
    private void joinMore(int many, int used, int strong, int left) {
      if (many > 0 && strong > bestStrong) {
        bestStrong = strong;
        bestLength = many;
        System.arraycopy(joined, 0, best, 0, MOST_JOINED);
      }
      if (many >= MOST_JOINED) {
        return;
      }
      for (int i = 0; i < hills.parts; i++) {
        if (((used >> i) & 1) == 0 && hills.partLong[i] <= left) {
          boolean alike = many > 0 && hills.partKey[joined[many - 1]] == hills.partKey[i];
          joined[many] = i;
          int more = strong + hills.partStrong[i] + (alike ? NEIGHBOURS : 0);
          joinMore(many + 1, used | (1 << i), more, left - hills.partLong[i]);
        }
      }
    }
  }

  /** WAKE that FITS what was seen of a stranger. */
  static final class Strangers {
    private static final int SLEPT = SIGHT_WIDTH - 1;

    private final Hills hills;
    private final Singing singing;
    // what is left behind all SIGHTS of each WAKE one may have had; NONE: it does not FIT
    private final int[] left = new int[MOST_WAKE + 1];

    Strangers(Hills hills, Singing singing) {
      this.hills = hills;
      this.singing = singing;
    }

    int leastWake(int skill) {
      hearAll(skill);
      for (int wake = 1; wake <= MOST_WAKE; wake++) {
        if (left[wake] != NONE) {
          return wake;
        }
      }
      return NONE;
    }

    int greatestWake(int skill) {
      hearAll(skill);
      for (int wake = MOST_WAKE; wake >= 1; wake--) {
        if (left[wake] != NONE) {
          return wake;
        }
      }
      return NONE;
    }

    int howMany(int skill) {
      hearAll(skill);
      int many = 0;
      for (int wake = 1; wake <= MOST_WAKE; wake++) {
        if (left[wake] != NONE) {
          many++;
        }
      }
      return many;
    }

    int nextVerse(int skill, int singer) {
      hearAll(skill);
      int awake = 0;
      for (int wake = 1; wake <= MOST_WAKE; wake++) {
        if (left[wake] > 0) {
          awake++;
        }
      }
      int verse = NONE;
      int least = MOST_WAKE + 1;
      for (int i = 0; i < hills.verses && awake > 0; i++) {
        singing.setStranger(i, singer, 0, 0, skill);
        int slept = howManySleep();
        int more = Math.max(slept, awake - slept);
        if (more < least) {
          least = more;
          verse = i;
        }
      }
      return verse;
    }

    private void hearAll(int skill) {
      for (int wake = 0; wake <= MOST_WAKE; wake++) {
        left[wake] = wake;
      }
      int[] seen = hills.seen;
      for (int i = 0; i < hills.sights; i++) {
        int from = i * SIGHT_WIDTH;
        singing.setStranger(seen[from], seen[from + 1], seen[from + 2], seen[from + 3], skill);
        hearOne(seen[from + SLEPT] == 1);
      }
    }

    private void hearOne(boolean toldSlept) {
      boolean byWake = singing.isLullByWake();
      int lull = singing.lullsAt(MOST_WAKE);
      for (int wake = 1; wake <= MOST_WAKE; wake++) {
        int was = left[wake];
        // who slept already hears no more, so this SIGHT can't be of that one
        if (was <= 0) {
          left[wake] = NONE;
          continue;
        }
        int now = Math.max(0, was - (byWake ? singing.lullsAt(was) : lull));
        left[wake] = toldSlept == (now == 0) ? now : NONE;
      }
    }

    private int howManySleep() {
      boolean byWake = singing.isLullByWake();
      int lull = singing.lullsAt(MOST_WAKE);
      int slept = 0;
      for (int wake = 1; wake <= MOST_WAKE; wake++) {
        if (left[wake] > 0 && left[wake] <= (byWake ? singing.lullsAt(left[wake]) : lull)) {
          slept++;
        }
      }
      return slept;
    }
  }
}
