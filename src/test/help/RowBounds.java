/** Boundary sentences about rows of hours, and about two sides that dare each other: promises 15 to 22, 31, 32 and their terms. */
final class RowBounds {
  private static final int[] NO_INTS = {Integer.MIN_VALUE, -16, -1, 16, 31, 1 << 30, Integer.MAX_VALUE};

  private RowBounds() {
  }

  /** A street with so many goers that make no noise, by itself getting no deeper. */
  private static SleepAct silent(int goers) {
    return Bounds.told("street 2 house 0 depth 5;" + "goer loud 0;".repeat(goers) + "sleeps:depth;");
  }

  @Bounds.Holds(promise = 0, says = "A ROW: sets that STEP in HOURS from now on, one behind the other, nothing else being done.")
  static void rowsEndWhenItWakes() {
    // it wakes in the third hour, whoever steps
    SleepAct x = Bounds.told("street 1 house 0 depth 3;goer loud 0;sleeps:depth-1;");
    long[] want = {1, 2, 3, 0, 0, 0, 0, 0, 0};
    for (int n = 0; n <= 8; n++) Bounds.due("rows(0, " + n + ")", x.rows(0, n), want[n]);
    Bounds.due("nothing was done", x.count(6), 0);
    // a law by which it would sleep again: it stays awake
    x = Bounds.told("street 1 house 0 depth 1;goer loud 0;sleeps:if depth=1 then 0 else 9 end;");
    for (int n = 1; n <= 8; n++) Bounds.due("rows(0, " + n + ")", x.rows(0, n), 0);
    Bounds.due("stands()", x.stands(), 3);
    Bounds.due("deepest()", x.deepest(), 1);
  }

  @Bounds.Holds(promise = 0, says = "COMING BY of a set of GOERS: a ROW behind which all of these are PAST and it SLEEPS: the fewest HOURS, of like ones the first by sets (as numbers).")
  static void fewestHoursThenFirstBySets() {
    SleepAct x = silent(3);
    Bounds.due("soonest(4)", x.soonest(4), 2);
    Bounds.due("just these, though others could", x.way(4, 0) * 10 + x.way(4, 1), 44);
    Bounds.due("soonest(5)", x.soonest(5), 2);
    Bounds.due("way of 5", x.way(5, 0) * 10 + x.way(5, 1), 55);
    // two of three hours are steps: nobody first
    x = Bounds.told("street 2 house 0 depth 3;goer loud 0;sleeps:if past=1 then if depth=5 then 1 else 0 end else depth+1 end;");
    Bounds.due("it must be 5 ahead of the last step", x.soonest(1), 3);
    int[] way = {0, 1, 1};
    for (int i = 0; i < 3; i++) Bounds.due("way(1, " + i + ")", x.way(1, i), way[i]);
    // a lesser set first, even if a greater one comes then
    x = Bounds.told("street 2 house 0 depth 5;goer loud 0 at 1;goer loud 0;sleeps:if steps>1 then 0 else depth end;");
    int[] third = {1, 2, 2};
    Bounds.due("one at a time", x.soonest(3), 3);
    for (int i = 0; i < 3; i++) Bounds.due("way(3, " + i + ")", x.way(3, i), third[i]);
    // behind which it sleeps: not the row that is shortest but wakes it
    x = Bounds.told("street 1 house 0 depth 1;goer loud 3;");
    Bounds.due("noise 2 at 1 wakes it", x.by(1), 0);
    Bounds.due("soonest(1)", x.soonest(1), 3);
  }

  @Bounds.Holds(promise = 15, says = "COMING BY of a set: how many HOURS.")
  static void soonestOfNobody() {
    for (int goers = 0; goers <= 4; goers++) {
      SleepAct x = silent(goers);
      Bounds.due("soonest(0)", x.soonest(0), 0);
      if (goers > 0) Bounds.due("soonest of all", x.soonest((1 << goers) - 1), 2);
    }
    SleepAct x = Bounds.told("street 1 house 0 depth 5;goer loud 9 at 1;goer loud 0;sleeps:0;");
    Bounds.due("who is PAST now", x.soonest(1), 0);
    // the longest: 24 steps, one an hour, each behind eight hours of rest
    x = Bounds.told("street 6 house 0 depth 9;" + "goer loud 0;".repeat(4) + "sleeps:if steps=0 then depth+1 else if steps=1 then depth-8 else 0 end end;");
    Bounds.due("a long way", x.soonest(15), 24 + 23 * 8);
    Bounds.due("its first step", x.way(15, 0), 1);
    Bounds.due("its last step", x.way(15, 24 + 23 * 8 - 1), 8);
    Bounds.due("a rest ahead of it", x.way(15, 24 + 23 * 8 - 2), 0);
    Bounds.due("behind its last step", x.way(15, 24 + 23 * 8), -1);
  }

  @Bounds.Holds(promise = 15, says = "NONE: it can't be; -3: others are in the set.")
  static void soonestRefused() {
    SleepAct x = Bounds.told("street 1 house 0 depth 9;goer loud 9;goer loud 0;noise:loud;");
    Bounds.due("noise 9 at 9", x.soonest(1), -1);
    Bounds.due("the other one can", x.soonest(2), 1);
    Bounds.due("both can't", x.soonest(3), -1);
    for (int goers = 0; goers <= 4; goers++) {
      x = silent(goers);
      Bounds.due("one more", x.soonest(1 << goers), -3);
      for (int set : NO_INTS) Bounds.due("soonest(" + set + ")", x.soonest(set), -3);
    }
    x = Bounds.awake();
    for (int set = 0; set < 4; set++) Bounds.due("AWAKE, soonest(" + set + ")", x.soonest(set), -1);
    Bounds.due("AWAKE, others", x.soonest(4), -3);
  }

  @Bounds.Holds(promise = 16, says = "Who STEPS in the i-th HOUR of it, as bits. NONE: not so many, it can't be; -3: the set, i is below 0.")
  static void wayRefused() {
    SleepAct x = silent(2);
    Bounds.due("way(3, 0)", x.way(3, 0), 3);
    Bounds.due("way(3, 1)", x.way(3, 1), 3);
    Bounds.due("way(3, 2), not so many", x.way(3, 2), -1);
    Bounds.due("way(3, greatest)", x.way(3, Integer.MAX_VALUE), -1);
    Bounds.due("way(0, 0), none", x.way(0, 0), -1);
    Bounds.due("way(3, -1)", x.way(3, -1), -3);
    Bounds.due("way(3, least)", x.way(3, Integer.MIN_VALUE), -3);
    Bounds.due("way(4, 0)", x.way(4, 0), -3);
    Bounds.due("way(4, -1)", x.way(4, -1), -3);
    for (int set : NO_INTS) Bounds.due("way(" + set + ", 0)", x.way(set, 0), -3);
    x = Bounds.told("street 1 house 0 depth 9;goer loud 9;noise:9;");
    Bounds.due("it can't be", x.way(1, 0), -1);
    Bounds.due("it can't be, i is below 0", x.way(1, -1), -3);
    x = Bounds.awake();
    Bounds.due("AWAKE", x.way(0, 0), -1);
    Bounds.due("AWAKE, i is below 0", x.way(0, -1), -3);
    Bounds.due("AWAKE, others", x.way(4, 0), -3);
  }

  @Bounds.Holds(promise = 17, says = "How many ROWS of just n HOURS (0 to 8) there are behind which a set is PAST and it SLEEPS.")
  static void rowsOf0to8() {
    SleepAct x = Bounds.told("street 1 house 0 depth 5;goer loud 0 at 1;goer loud 0;sleeps:depth;");
    Bounds.due("rows(0, 0)", x.rows(0, 0), 1);
    Bounds.due("rows(1, 0), PAST now", x.rows(1, 0), 1);
    Bounds.due("rows(2, 0)", x.rows(2, 0), 0);
    for (int n = 1; n <= 8; n++) {
      Bounds.due("rows(2, " + n + ")", x.rows(2, n), n);
      Bounds.due("rows(0, " + n + ")", x.rows(0, n), n + 1);
    }
    // more than an int holds: of 8 hours each of four goers steps in 0 to 6
    x = Bounds.told("street 6 house 0 depth 9;" + "goer loud 0;".repeat(4) + "sleeps:depth;");
    Bounds.due("rows(0, 8)", x.rows(0, 8), 247L * 247 * 247 * 247);
    Bounds.due("rows(15, 8)", x.rows(15, 8), 28L * 28 * 28 * 28);
    Bounds.due("rows(15, 5), too few", x.rows(15, 5), 0);
    Bounds.due("rows(15, 6), just one", x.rows(15, 6), 1);
    Bounds.due("rows(0, 1)", x.rows(0, 1), 16);
    // it wakes in the last hour
    x = Bounds.told("street 1 house 0 depth 8;goer loud 0;sleeps:depth-1;");
    Bounds.due("rows(1, 7)", x.rows(1, 7), 7);
    Bounds.due("rows(1, 8)", x.rows(1, 8), 0);
    // it sleeps at 1, too
    x = Bounds.told("street 1 house 0 depth 1;goer loud 0;sleeps:depth;");
    Bounds.due("rows(0, 0) from 1", x.rows(0, 0), 1);
    Bounds.due("rows(1, 8) from 1", x.rows(1, 8), 8);
    x = Bounds.told("street 1 house 0 depth 2;goer loud 0;sleeps:if depth=2 then 1 else 2 end;");
    Bounds.due("rows(1, 8) from 2 to 1 and back", x.rows(1, 8), 8);
    // all are PAST, and hours go by
    x = Bounds.told("street 6 house 0 depth 3;" + "goer loud 0 at 6;".repeat(4) + "sleeps:depth-1;");
    Bounds.due("rows(15, 2), all are PAST", x.rows(15, 2), 1);
    Bounds.due("rows(15, 3), all are PAST, it wakes", x.rows(15, 3), 0);
    x = Bounds.awake();
    Bounds.due("AWAKE, rows(0, 0)", x.rows(0, 0), 0);
    Bounds.due("AWAKE, rows(2, 0)", x.rows(2, 0), 0);
    Bounds.due("AWAKE, rows(0, 8)", x.rows(0, 8), 0);
  }

  @Bounds.Holds(promise = 17, says = "-3: the set, n.")
  static void rowsRefused() {
    for (int goers = 0; goers <= 4; goers++) {
      SleepAct x = silent(goers);
      Bounds.due("one more", x.rows(1 << goers, 1), -3);
      for (int set : NO_INTS) Bounds.due("rows(" + set + ", 1)", x.rows(set, 1), -3);
      for (int n : new int[] {-1, 9, 10, Integer.MIN_VALUE, Integer.MAX_VALUE}) Bounds.due("rows(0, " + n + ")", x.rows(0, n), -3);
    }
    SleepAct x = Bounds.awake();
    Bounds.due("AWAKE, n", x.rows(0, 9), -3);
    Bounds.due("AWAKE, others", x.rows(4, 0), -3);
  }

  @Bounds.Holds(promise = 18, says = "Who can be PAST (with it SLEEPING then) by some ROW, as bits (each by itself).")
  static void canEachByItself() {
    Bounds.due("without GOERS", new SleepAct().can(), 0);
    SleepAct x = Bounds.told("street 1 house 0 depth 5;goer loud 0;goer loud 0;goer loud 9;noise:loud;sleeps:if past>1 then 0 else depth-noise end;");
    Bounds.due("two of three, not both", x.can(), 3);
    x.hour(1);
    Bounds.due("one is PAST, then no other", x.can(), 1);
    x = Bounds.told("street 1 house 0 depth 5;goer loud 0 at 1;goer loud 0;sleeps:0;");
    Bounds.due("who is PAST now, by no HOUR", x.can(), 1);
    x = Bounds.told("street 6 house 0 depth 9;" + "goer loud 0;".repeat(4));
    Bounds.due("all", x.can(), 15);
    Bounds.due("AWAKE", Bounds.awake().can(), 0);
    x = Bounds.told("street 2 house 0 depth 2;goer loud 0;sleeps:depth-1;");
    Bounds.due("it wakes by the last step", x.can(), 0);
    x = Bounds.told("street 2 house 0 depth 3;goer loud 0;sleeps:depth-1;");
    Bounds.due("it sleeps at 1 behind the last step", x.can(), 1);
  }

  @Bounds.Holds(promise = 19, says = "The most GOERS that can be PAST at one time by some ROW with it SLEEPING then; of like ones the least set, what 0: how many, 1: the set, as bits.")
  static void mostOfLikeOnesTheLeast() {
    Bounds.due("without GOERS", new SleepAct().most(0), 0);
    Bounds.due("without GOERS", new SleepAct().most(1), 0);
    String four = "goer loud 0;".repeat(4);
    SleepAct x = Bounds.told("street 1 house 0 depth 5;" + four + "noise:goer;sleeps:if past>2 then 0 else depth end;");
    Bounds.due("two at one time", x.most(0), 2);
    Bounds.due("0 and 1", x.most(1), 3);
    x = Bounds.told("street 1 house 0 depth 5;" + four + "noise:if goer=1 then 1 else 0 end;sleeps:if past>2 then 0 else if noise>0 then 0 else depth end end;");
    Bounds.due("0 and 2", x.most(1), 5);
    x = Bounds.told("street 1 house 0 depth 5;" + four);
    Bounds.due("all", x.most(0), 4);
    Bounds.due("all", x.most(1), 15);
    x = Bounds.told("street 1 house 0 depth 5;" + four + "sleeps:if past>0 then 0 else depth end;");
    Bounds.due("nobody", x.most(0), 0);
    Bounds.due("nobody", x.most(1), 0);
    x = Bounds.told("street 1 house 0 depth 5;goer loud 0;goer loud 0;goer loud 0 at 1;sleeps:0;");
    Bounds.due("who is PAST now", x.most(1), 4);
    x = Bounds.told("street 2 house 0 depth 3;goer loud 0;goer loud 0;sleeps:depth-1;");
    Bounds.due("it sleeps at 1 behind the last steps", x.most(1), 3);
    x.hour(0);
    Bounds.due("it wakes by the last steps", x.most(1), 0);
    // 3 has more than 4, though it is less; of 3 and 5 and 6 it is the least
    x = Bounds.told("street 2 house 0 depth 5;goer loud 0;goer loud 0 at 1;goer loud 0 at 1;sleeps:if past>2 then 0 else depth end;");
    Bounds.due("the least is found last", x.most(1), 3);
  }

  @Bounds.Holds(promise = 19, says = "NONE: it is AWAKE; -2: what.")
  static void mostRefused() {
    SleepAct x = silent(2);
    for (int what : new int[] {-1, 2, Integer.MIN_VALUE, Integer.MAX_VALUE}) Bounds.due("most(" + what + ")", x.most(what), -2);
    x = Bounds.awake();
    Bounds.due("AWAKE", x.most(0), -1);
    Bounds.due("AWAKE", x.most(1), -1);
    for (int what : new int[] {-1, 2, Integer.MIN_VALUE, Integer.MAX_VALUE}) Bounds.due("AWAKE, most(" + what + ")", x.most(what), -2);
  }

  @Bounds.Holds(promise = 20, says = "The deepest it can SLEEP by some ROW (now, too; 0: it is AWAKE).")
  static void deepestNowToo() {
    SleepAct x = Bounds.told("street 1 house 0 depth 7;sleeps:depth-1;");
    Bounds.due("now", x.deepest(), 7);
    x.hours(6);
    Bounds.due("at 1", x.deepest(), 1);
    x.hours(1);
    Bounds.due("AWAKE", x.deepest(), 0);
    x = Bounds.told("street 1 house 0 depth 1;");
    Bounds.due("9 at most", x.deepest(), 9);
    x = Bounds.told("street 2 house 0 depth 3;goer loud 0;sleeps:if past=1 then 8 else 2 end;");
    Bounds.due("behind all steps", x.deepest(), 8);
  }

  @Bounds.Holds(promise = 21, says = "Who can STEP in one HOUR from now on so that it SLEEPS then: the most GOERS, of like ones the least set, as bits (0: nobody).")
  static void atOnceOfLikeOnesTheLeast() {
    Bounds.due("without GOERS", new SleepAct().atOnce(), 0);
    SleepAct x = Bounds.told("street 1 house 0 depth 5;goer loud 0;goer loud 0;goer loud 0;goer loud 0;sleeps:if steps>2 then 0 else 1 end;");
    Bounds.due("two of four", x.atOnce(), 3);
    x = Bounds.told("street 1 house 0 depth 5;goer loud 4;goer loud 2;goer loud 2;goer loud 0;noise:loud;");
    Bounds.due("noise 4 at most, at 5", x.atOnce(), 14);
    x = Bounds.told("street 1 house 0 depth 5;goer loud 4;goer loud 2;goer loud 3;goer loud 4;noise:loud;");
    Bounds.due("one of four, the least", x.atOnce(), 1);
    x = Bounds.told("street 1 house 0 depth 5;goer loud 5;goer loud 5;noise:loud;");
    Bounds.due("nobody", x.atOnce(), 0);
    x = Bounds.told("street 1 house 0 depth 5;goer loud 0;goer loud 0 at 1;goer loud 0;goer loud 0 at 1;");
    Bounds.due("all that aren't PAST", x.atOnce(), 5);
    x = Bounds.told("street 1 house 0 depth 5;goer loud 0;goer loud 0;sleeps:steps;");
    Bounds.due("nobody would wake it, all not", x.atOnce(), 3);
    x = Bounds.told("street 1 house 0 depth 5;goer loud 0 at 1;");
    Bounds.due("all are PAST", x.atOnce(), 0);
  }

  @Bounds.Holds(promise = 21, says = "NONE: it wakes by each set; -5: it is AWAKE.")
  static void atOnceRefused() {
    SleepAct x = Bounds.told("street 1 house 0 depth 9;goer loud 0;goer loud 0;sleeps:0;");
    Bounds.due("it wakes by each set", x.atOnce(), -1);
    x.hour(0);
    Bounds.due("AWAKE", x.atOnce(), -5);
    x = Bounds.told("street 1 house 0 depth 9;sleeps:0;");
    Bounds.due("it wakes by the one set there is", x.atOnce(), -1);
    Bounds.due("AWAKE", Bounds.awake().atOnce(), -5);
  }

  @Bounds.Holds(promise = 22, says = "In how many ways GOERS and DEPTH can be by some ROW (as they are, too).")
  static void standsAsTheyAre() {
    Bounds.due("one", new SleepAct().stands(), 1);
    Bounds.due("AWAKE", Bounds.awake().stands(), 1);
    SleepAct x = Bounds.told("street 1 house 0 depth 9;sleeps:depth-1;");
    Bounds.due("9 to 0", x.stands(), 10);
    x = Bounds.told("street 1 house 0 depth 9;sleeps:0;");
    Bounds.due("as it is, and AWAKE", x.stands(), 2);
    // where each is, and each depth from 1 to 9 behind an hour: by sleeps as by noise
    x = Bounds.told("street 6 house 0 depth 9;" + "goer loud 0;".repeat(4) + "sleeps:if steps=0 then if depth=0 then 9 else depth-1 end else depth end;");
    Bounds.due("all that can be", x.stands(), 7 * 7 * 7 * 7 * 10);
    Bounds.due("who can, of all that can be", x.can(), 15);
    Bounds.due("how many, of all that can be", x.most(0), 4);
    Bounds.due("how deep, of all that can be", x.deepest(), 9);
    Bounds.due("soonest, of all that can be", x.soonest(15), 6);
    x.hour(0);
    Bounds.due("all that can be from 8 on", x.stands(), 7 * 7 * 7 * 7 * 9);
    x = Bounds.told("street 1 house 0 depth 9;goer loud 0 at 1;sleeps:depth;");
    Bounds.due("nobody can STEP", x.stands(), 1);
  }

  // ---- daring

  @Bounds.Holds(promise = 0, says = "who is on lets just one of its own that isn't PAST STEP (an HOUR), or, if all are, nobody;")
  static void oneOfItsOwnOrNobody() {
    // each hour makes it sleep one less deep: the third wakes it
    SleepAct x = Bounds.told("street 3 house 0 depth 3;goer loud 0;goer loud 0 at 3;sleeps:depth-1;");
    Bounds.due("step, rest, step", x.daring(1), -1);
    Bounds.due("rest, step, rest", x.daring(2), -1);
    // nobody is on one side
    Bounds.due("rest, step, rest", x.daring(0), -1);
    Bounds.due("step, rest, step", x.daring(3), -1);
    // the rest is an hour in which nobody steps
    x = Bounds.told("street 1 house 0 depth 3;goer loud 0;goer loud 0 at 1;sleeps:if steps=0 then 0 else depth end;");
    Bounds.due("its own are PAST: the rest wakes it", x.daring(2), -1);
    Bounds.due("one step, and all are PAST", x.daring(1), 0);
    // the rest makes no noise: from 1 it sleeps at 2, then noise 2 wakes it
    x = Bounds.told("street 1 house 0 depth 1;goer loud 3;goer loud 0 at 1;");
    Bounds.due("rest, step", x.daring(2), 1);
    Bounds.due("step", x.daring(1), -1);
    // who has one that isn't PAST can't rest, though it would do better so
    x = Bounds.told("street 1 house 0 depth 3;goer loud 0;goer loud 0;sleeps:if steps=0 then depth else 0 end;");
    Bounds.due("it must step", x.daring(1), -1);
    // just one, though two would do better
    x = Bounds.told("street 1 house 0 depth 3;goer loud 0;goer loud 0;goer loud 0;sleeps:if steps=1 then 0 else depth end;");
    Bounds.due("just one", x.daring(3), -1);
  }

  @Bounds.Holds(promise = 0, says = "who is on when it wakes has lost; it ends with nobody lost when all are PAST.")
  static void whoIsOnHasLost() {
    for (int depth = 1; depth <= 9; depth++) {
      // six steps in all, each one less deep
      SleepAct x = Bounds.told("street 3 house 0 depth " + depth + ";goer loud 0;goer loud 0;sleeps:depth-1;");
      Bounds.due("depth " + depth, x.daring(1), depth > 6 ? 0 : depth % 2 == 1 ? -1 : 1);
    }
    SleepAct x = Bounds.told("street 1 house 0 depth 5;goer loud 0 at 1;goer loud 0 at 1;sleeps:0;");
    Bounds.due("all are PAST at first", x.daring(1), 0);
    Bounds.due("all are PAST at first", x.daring(0), 0);
    Bounds.due("nobody is there", new SleepAct().daring(0), 0);
    x = Bounds.told("street 1 house 0 depth 5;goer loud 0;sleeps:0;");
    Bounds.due("the last step wakes it", x.daring(1), -1);
  }

  @Bounds.Holds(promise = 0, says = "Both do their best: rather the other one loses than nobody, rather nobody than oneself.")
  static void bothDoTheirBest() {
    // 0 may step first (then 2 wakes it), or 1 (then 2 doesn't)
    SleepAct x = Bounds.told("street 1 house 0 depth 5;goer loud 1;goer loud 2;goer loud 3;noise:goer+1;sleeps:"
        + "if depth=5 then if noise=1 then 4 else 3 end else if depth=4 then if noise=3 then 0 else 9 end else 9 end end;");
    Bounds.due("rather the other one loses", x.daring(3), 1);
    Bounds.due("by letting 0 step", x.dares(3), 0);
    x = Bounds.told("street 1 house 0 depth 5;goer loud 1;goer loud 2;goer loud 3;noise:goer+1;sleeps:"
        + "if depth=5 then if noise=2 then 4 else 3 end else if depth=4 then if noise=3 then 0 else 9 end else 9 end end;");
    Bounds.due("rather the other one loses", x.daring(3), 1);
    Bounds.due("by letting 1 step", x.dares(3), 1);
    // 0 wakes it at once, 1 doesn't, then nothing does
    x = Bounds.told("street 1 house 0 depth 5;goer loud 1;goer loud 2;goer loud 3;noise:goer+1;sleeps:"
        + "if depth=5 then if noise=1 then 0 else 3 end else 9 end;");
    Bounds.due("rather nobody than oneself", x.daring(3), 0);
    Bounds.due("by letting 1 step", x.dares(3), 1);
    // the other one does its best, too: it has a step that doesn't wake it
    x = Bounds.told("street 1 house 0 depth 5;goer loud 0;goer loud 0;goer loud 0;noise:goer;sleeps:"
        + "if depth=5 then 4 else if depth=4 then if noise=1 then 0 else 9 end else 9 end end;");
    Bounds.due("the other one lets 2 step", x.daring(1), 0);
  }

  @Bounds.Holds(promise = 31, says = "DARING: 1 the others lose, 0 nobody, -1 those of the set. -3: others are in the set; -5: it is AWAKE.")
  static void daringRefused() {
    for (int goers = 0; goers <= 4; goers++) {
      SleepAct x = silent(goers);
      Bounds.due("one more", x.daring(1 << goers), -3);
      for (int set : NO_INTS) Bounds.due("daring(" + set + ")", x.daring(set), -3);
      for (int set = 0; set < 1 << goers; set++) Bounds.due("daring(" + set + ")", x.daring(set), 0);
    }
    SleepAct x = Bounds.awake();
    for (int set = 0; set < 4; set++) Bounds.due("AWAKE, daring(" + set + ")", x.daring(set), -5);
    Bounds.due("AWAKE, others", x.daring(4), -3);
    Bounds.due("AWAKE, others", x.daring(-1), -3);
    // the greatest: 24 steps
    x = Bounds.told("street 6 house 0 depth 9;" + "goer loud 0;".repeat(4));
    Bounds.due("all silent", x.daring(5), 0);
    x = Bounds.told("street 6 house 0 depth 9;" + "goer loud 0;".repeat(4) + "sleeps:if past=4 then 0 else depth end;");
    Bounds.due("the 24th step wakes it", x.daring(5), 1);
  }

  @Bounds.Holds(promise = 32, says = "Whom those of the set first let STEP to do their best, the first. NONE: all of them are PAST; -3; -5.")
  static void daresRefused() {
    for (int goers = 0; goers <= 4; goers++) {
      SleepAct x = silent(goers);
      Bounds.due("one more", x.dares(1 << goers), -3);
      for (int set : NO_INTS) Bounds.due("dares(" + set + ")", x.dares(set), -3);
      Bounds.due("dares(0), it has none", x.dares(0), -1);
      for (int set = 1; set < 1 << goers; set++) Bounds.due("the first of " + set, x.dares(set), Integer.numberOfTrailingZeros(set));
    }
    SleepAct x = Bounds.told("street 1 house 0 depth 5;goer loud 0 at 1;goer loud 0;goer loud 0;");
    Bounds.due("all of them are PAST", x.dares(1), -1);
    Bounds.due("the first that isn't PAST", x.dares(7), 1);
    Bounds.due("the first that isn't PAST", x.dares(5), 2);
    x = Bounds.told("street 1 house 0 depth 5;goer loud 0;goer loud 0;sleeps:0;");
    Bounds.due("each loses: the first", x.dares(3), 0);
    Bounds.due("each loses: the first", x.dares(2), 1);
    x = Bounds.awake();
    for (int set = 0; set < 4; set++) Bounds.due("AWAKE, dares(" + set + ")", x.dares(set), -5);
    Bounds.due("AWAKE, others", x.dares(4), -3);
  }
}
