/** Boundary sentences about hours, hints, the draught, undoing, deeds in trays, nights: promises 5 to 14 and their terms. */
final class DeedBounds {
  private static final String SILENT4 = "goer loud 0;goer loud 0;goer loud 0;goer loud 0;";

  private DeedBounds() {
  }

  // ---- hours

  @Bounds.Holds(promise = 0, says = "A GOER is in a CELL, or PAST (told as the CELL behind the last one).")
  static void pastIsTheCellBehindTheLast() {
    for (int cells = 1; cells <= 6; cells++) {
      SleepAct x = Bounds.told("street " + cells + " house 0 depth 9;goer loud 0;noise:0;");
      for (int i = 0; i < cells; i++) {
        Bounds.due("its cell", x.goer(0, 0), i);
        Bounds.due("not PAST", x.count(4), 0);
        x.hour(1);
      }
      Bounds.due("its cell", x.goer(0, 0), cells);
      Bounds.due("PAST", x.count(4), 1);
    }
  }

  @Bounds.Holds(promise = 0, says = "The act SLEEPS as deep as DEPTH 1 to 9; at 0 it is AWAKE, and nothing more is done in the street.")
  static void awakeAt0() {
    SleepAct x = Bounds.told("street 1 house 0 depth 2;goer loud 0;sleeps:depth-1;");
    Bounds.due("hour(0)", x.hour(0), 1);
    Bounds.due("at 1 it sleeps: by(0)", x.by(0), 0);
    Bounds.due("at 1 it sleeps: hour(0)", x.hour(0), 0);
    Bounds.due("hour(0)", x.hour(0), -13);
    Bounds.due("hour(1)", x.hour(1), -13);
    Bounds.due("hours(1)", x.hours(1), -13);
    Bounds.due("by(0)", x.by(0), -5);
    Bounds.tray(x, 0, 0);
    Bounds.due("perform", x.perform(0), 0);
    Bounds.due("hours", x.count(6), 2);
    Bounds.due("where it is", x.goer(0, 0), 0);
    Bounds.due("undo(1)", x.undo(1), 1);
    Bounds.due("at 1 it sleeps again", x.hour(1), 0);
  }

  @Bounds.Holds(promise = 0, says = "An HOUR with a set of GOERS that STEP (none PAST; nobody, too): each goes one CELL on;")
  static void setsThatStep() {
    SleepAct x = Bounds.told("street 2 house 0 depth 9;" + SILENT4);
    Bounds.due("nobody", x.hour(0), 9);
    for (int g = 0; g < 4; g++) Bounds.due("goer " + g, x.goer(g, 0), 0);
    Bounds.due("all", x.hour(15), 9);
    for (int g = 0; g < 4; g++) Bounds.due("goer " + g, x.goer(g, 0), 1);
    Bounds.due("some", x.hour(5), 9);
    for (int g = 0; g < 4; g++) Bounds.due("goer " + g, x.goer(g, 0), g % 2 == 0 ? 2 : 1);
    for (int set = 0; set < 16; set++) Bounds.due("by(" + set + ")", x.by(set), (set & 5) == 0 ? 9 : -5);
    x.hour(10);
    Bounds.due("all are PAST, nobody", x.hour(0), 9);
    Bounds.due("all are PAST, one", x.hour(8), -12);
    Bounds.due("hours", x.count(6), 5);
  }

  private static int noise(String law) {
    return Bounds.told("street 3 house 1 depth 4;goer loud 5;noise:" + law + ";").goer(0, 3);
  }

  @Bounds.Holds(promise = 0, says = "the NOISE of each is what the law noise tells, 0 at least, 99 at most")
  static void noise0to99() {
    Bounds.due("-1", noise("0-1"), 0);
    Bounds.due("-1000000", noise("(0-999)*999*9"), 0);
    Bounds.due("0", noise("0"), 0);
    Bounds.due("1", noise("1"), 1);
    Bounds.due("98", noise("98"), 98);
    Bounds.due("99", noise("99"), 99);
    Bounds.due("100", noise("100"), 99);
    Bounds.due("1000000", noise("999*999*9"), 99);
    // of each, ahead of being added
    SleepAct x = Bounds.told("street 1 house 0 depth 9;goer loud 0;goer loud 0;noise:if goer=0 then 0-50 else 50 end;sleeps:noise-45;");
    Bounds.due("0 and 50", x.by(3), 5);
    x = Bounds.told("street 1 house 0 depth 9;goer loud 0;goer loud 0;noise:if goer=0 then 200 else 1 end;sleeps:noise-95;");
    Bounds.due("99 and 1", x.by(3), 5);
    x = Bounds.told("street 1 house 0 depth 9;" + SILENT4 + "noise:999;sleeps:noise-390;");
    Bounds.due("four times 99", x.by(15), 6);
    Bounds.due("three times 99", x.by(7), 0);
  }

  @Bounds.Holds(promise = 0, says = "(without one: loud less far, 0 at least)")
  static void noiseWithoutLaw() {
    SleepAct x = Bounds.told("street 6 house 5 depth 9;goer loud 3;goer loud 4;goer loud 5;goer loud 9;");
    int[] want = {0, 0, 1, 5};
    for (int g = 0; g < 4; g++) Bounds.due("goer(" + g + ", 3), far 4", x.goer(g, 3), want[g]);
    Bounds.due("none less than 0 is added", x.by(15), 3);
  }

  @Bounds.Holds(promise = 0, says = "then the DEPTH is what the law sleeps tells, 0 at least, 9 at most")
  static void depth0to9() {
    String[] laws = {"(0-999)*999*9", "0-1", "0", "1", "8", "9", "10", "999*999*9"};
    int[] want = {0, 0, 0, 1, 8, 9, 9, 9};
    for (int i = 0; i < laws.length; i++) {
      SleepAct x = Bounds.told("street 1 house 0 depth 5;sleeps:" + laws[i] + ";");
      Bounds.due("by " + laws[i], x.by(0), want[i]);
      Bounds.due("hour by " + laws[i], x.hour(0), want[i]);
      Bounds.due("then", x.count(3), want[i]);
    }
  }

  @Bounds.Holds(promise = 0, says = "(without one: 1 more, if all NOISE is 0, else so much less as all NOISE is).")
  static void depthWithoutLaw() {
    for (int depth = 1; depth <= 9; depth++) {
      SleepAct x = Bounds.told("street 1 house 0 depth " + depth + ";goer loud 4;goer loud 2;goer loud 1;noise:loud;");
      Bounds.due("noise 0", x.by(0), Math.min(9, depth + 1));
      for (int set = 1; set < 8; set++) {
        int noise = 4 * (set & 1) + (set & 2) + (set >> 2);
        Bounds.due("depth " + depth + ", noise " + noise, x.by(set), Math.max(0, depth - noise));
      }
    }
    SleepAct x = Bounds.told("street 1 house 0 depth 3;goer loud 1;");
    Bounds.due("a step without noise", x.by(1), 4);
  }

  @Bounds.Holds(promise = 0, says = "far: how many CELLS lie from the one to which it goes to the house (the one behind the last counts as one more).")
  static void farBehindTheLast() {
    for (int cells = 1; cells <= 6; cells++) {
      for (int house = 0; house < cells; house++) {
        for (int at = 0; at < cells; at++) {
          SleepAct x = Bounds.told("street " + cells + " house " + house + " depth 9;noise:far;goer loud 0 at " + at + ";");
          int far = at + 1 < house ? house - at - 1 : at + 1 - house;
          Bounds.due("far from " + (at + 1) + " to " + house, x.goer(0, 3), far);
        }
      }
    }
  }

  @Bounds.Holds(promise = 0, says = "In sleeps: noise: all NOISE together, steps: how many STEP, past: how many are PAST then.")
  static void wordsOfSleeps() {
    String street = "street 2 house 0 depth 9;goer loud 0 at 1;goer loud 0 at 2;goer loud 0;goer loud 0 at 1;noise:goer+1;";
    SleepAct noises = Bounds.told(street + "sleeps:noise;");
    SleepAct steps = Bounds.told(street + "sleeps:steps;");
    SleepAct past = Bounds.told(street + "sleeps:past;");
    int[] sets = {0, 1, 4, 5, 8, 9, 12, 13};
    int[] noise = {0, 1, 3, 4, 4, 5, 7, 8};
    int[] pasts = {1, 2, 1, 2, 2, 3, 2, 3};
    for (int i = 0; i < sets.length; i++) {
      Bounds.due("noise by " + sets[i], noises.by(sets[i]), noise[i]);
      Bounds.due("steps by " + sets[i], steps.by(sets[i]), Integer.bitCount(sets[i]));
      Bounds.due("past by " + sets[i], past.by(sets[i]), pasts[i]);
    }
  }

  @Bounds.Holds(promise = 0, says = "In both laws: draught: the DRAUGHT, depth: the DEPTH ahead.")
  static void depthAheadInBothLaws() {
    SleepAct x = Bounds.told("street 2 house 0 depth 7;draught 2;goer loud 0;noise:depth*10+draught;sleeps:noise-depth*10;");
    Bounds.due("noise by 7 and 2", x.goer(0, 3), 72);
    Bounds.due("depth by both", x.hour(1), 2);
    Bounds.due("noise by 2 and 2", x.goer(0, 3), 22);
    x.draught(9);
    Bounds.due("noise by 2 and 9", x.goer(0, 3), 29);
    Bounds.due("depth by both", x.hour(1), 9);
  }

  @Bounds.Holds(promise = 0, says = "In noise: goer, loud, soft: the GOER's number, loudness, softness,")
  static void wordsOfNoise() {
    String goers = "goer loud 9 soft 1;goer loud 0 soft 9;goer loud 5;goer loud 7 soft 8;";
    int[][] want = {{0, 1, 2, 3}, {9, 0, 5, 7}, {1, 9, 0, 8}};
    String[] words = {"goer", "loud", "soft"};
    for (int i = 0; i < 3; i++) {
      SleepAct x = Bounds.told("street 1 house 0 depth 5;" + goers + "noise:" + words[i] + ";");
      for (int g = 0; g < 4; g++) Bounds.due(words[i] + " of " + g, x.goer(g, 3), want[i][g]);
    }
  }

  @Bounds.Holds(promise = 0, says = "To have another DRAUGHT.")
  static void anotherDraught() {
    SleepAct x = Bounds.told("street 1 house 0 depth 5;sleeps:draught;");
    for (int n = 9; n >= 0; n--) {
      x.draught(n);
      Bounds.due("by draught " + n, x.by(0), n);
    }
    Bounds.due("no HOUR goes by", x.count(6), 0);
  }

  @Bounds.Holds(promise = 0, says = "Each + - * is kept from -1,000,000 to 1,000,000;")
  static void sumsAreKept() {
    String million1 = "999*999+999+999";
    String back = "-999*999-999-999";
    String forth = "+999*999+999+999+5";
    Bounds.due("999,999", noise(million1 + back), 0);
    Bounds.due("1,000,000 by +", noise(million1 + "+1" + back), 1);
    Bounds.due("1,000,001 by +", noise(million1 + "+2" + back), 1);
    Bounds.due("1,000,999 by +", noise(million1 + "+999" + back), 1);
    Bounds.due("1,000,000 by -", noise(million1 + "-(0-1)" + back), 1);
    Bounds.due("1,000,001 by -", noise(million1 + "-(0-2)" + back), 1);
    Bounds.due("999,999 by *", noise("999*(999+2)" + back), 0);
    Bounds.due("1,000,000 by *", noise("(999+1)*(999+1)" + back), 1);
    Bounds.due("1,001,000 by *", noise("(999+1)*(999+2)" + back), 1);
    Bounds.due("far above by *", noise("999*999*999*999" + back), 1);
    Bounds.due("far above by * of two below", noise("(0-999)*999*(0-999)" + back), 1);
    Bounds.due("-999,999", noise("0" + back + forth), 5);
    Bounds.due("-1,000,000 by -", noise("0" + back + "-1" + forth), 4);
    Bounds.due("-1,000,001 by -", noise("0" + back + "-2" + forth), 4);
    Bounds.due("-1,000,000 by +", noise("0" + back + "+(0-1)" + forth), 4);
    Bounds.due("-1,000,001 by +", noise("0" + back + "+(0-2)" + forth), 4);
    Bounds.due("-999,999 by *", noise("(0-999)*(999+2)" + forth), 5);
    Bounds.due("-1,000,000 by *", noise("(0-999-1)*(999+1)" + forth), 4);
    Bounds.due("-1,001,000 by *", noise("(0-999-1)*(999+2)" + forth), 4);
    Bounds.due("far below by *", noise("(0-999)*999*999*999" + forth), 4);
    // 1,000,000 times itself wraps around in an int: 1000000000000 is -727379968 there
    Bounds.due("a million times a million", noise("((999+1)*(999+1))*((999+1)*(999+1))" + back), 1);
    Bounds.due("less a million times a million", noise("(0-(999+1)*(999+1))*((999+1)*(999+1))" + forth), 4);
  }

  @Bounds.Holds(promise = 0, says = "if tells the one SUM, if the TRUTH holds, else the other one.")
  static void truths() {
    String[] hold = {"1=1", "1<2", "2>1", "not 1=2", "[1=1]", "1=2 or 1=1", "1=1 or 1=2", "1=1 and 2=2", "1=1 or 1=1 and 1=2", "not 1=2 and 1=1",
      "0-1<0", "1=2 or 2=2 and 3=3", "not [1=1 and 1=2]", "not not 1=1"};
    String[] fail = {"1=2", "2<2", "3<2", "2>2", "1>2", "not 1=1", "[1=2]", "1=2 or 2=1", "1=1 and 1=2", "1=2 and 1=1", "[1=1 or 1=1] and 1=2",
      "not 1=1 and 1=2", "not [1=1 or 1=2]", "0-1>0"};
    for (String truth : hold) Bounds.due(truth, noise("if " + truth + " then 4 else 5 end"), 4);
    for (String truth : fail) Bounds.due(truth, noise("if " + truth + " then 4 else 5 end"), 5);
  }

  @Bounds.Holds(promise = 0, says = "A HINT that two PEOPLE are bound (1) or not (0): it is added to those there are (of two again: the later one instead).")
  static void laterHintInstead() {
    SleepAct x = Bounds.told(Bounds.HEAD + "people 4;not 0 1;bound 1 0;");
    Bounds.due("bound", x.hints(1), 1);
    Bounds.due("not", x.hints(0), 0);
    x.hint(0, 1, 1);
    Bounds.due("the same again", x.hints(1), 1);
    x.hint(1, 0, 0);
    Bounds.due("bound no more", x.hints(1), 0);
    Bounds.due("but not", x.hints(0), 1);
    x.hint(2, 3, 0);
    x.hint(0, 3, 1);
    Bounds.due("others are added", x.hints(0) * 10 + x.hints(1), 21);
    Bounds.tray(x, 0, 301, 223, 210);
    x.perform(0);
    Bounds.due("in a tray", x.hints(0) * 10 + x.hints(1), 3);
  }

  @Bounds.Holds(promise = 0, says = "Why not: 1 no such set, PEOPLE, DRAUGHT, number. 2 one of these is PAST. 3 it is AWAKE.")
  static void whyNot() {
    SleepAct x = Bounds.told("street 1 house 0 depth 1;goer loud 0;goer loud 0 at 1;people 2;sleeps:0;");
    long[] deeds = {4, 16, 50, 110, 200, 202, 220, 301 + 1, 2, 3};
    int[] why = {1, 1, 1, 1, 1, 1, 1, 1, 2, 2};
    for (int i = 0; i < deeds.length; i++) {
      Bounds.tray(x, 0, deeds[i]);
      Bounds.due("why not " + deeds[i], x.judge(0, 1), why[i]);
      Bounds.tray(x, 0, 0, deeds[i]);
      Bounds.due("why not " + deeds[i] + " when it is AWAKE", x.judge(0, 1), why[i]);
    }
    Bounds.tray(x, 0, 0, 1);
    Bounds.due("AWAKE", x.judge(0, 1), 3);
    Bounds.tray(x, 0, 0, 0);
    Bounds.due("AWAKE, nobody", x.judge(0, 1), 3);
    Bounds.tray(x, 0, 0, 109, 201, 310);
    Bounds.due("AWAKE, but no HOUR", x.judge(0, 1), 0);
  }

  // ---- what is told of a goer, of an hour

  @Bounds.Holds(promise = 5, says = "Of a GOER, what 0: its CELL (as many as there are: PAST), 1: loud, 2: soft, 3: the NOISE it would make by a STEP now (NONE: it is PAST).")
  static void goerPast() {
    SleepAct x = Bounds.told("street 2 house 0 depth 9;goer loud 9 soft 8 at 2;goer loud 7 soft 6 at 1;");
    int[][] want = {{2, 9, 8, -1}, {1, 7, 6, 5}};
    for (int g = 0; g < 2; g++) for (int what = 0; what < 4; what++) Bounds.due("goer(" + g + ", " + what + ")", x.goer(g, what), want[g][what]);
    x.hour(2);
    Bounds.due("PAST then", x.goer(1, 0), 2);
    Bounds.due("no NOISE then", x.goer(1, 3), -1);
    x.undo(1);
    Bounds.due("NOISE again", x.goer(1, 3), 5);
    x = Bounds.awake();
    Bounds.due("AWAKE, it would make NOISE", x.goer(0, 3), 0);
    Bounds.due("AWAKE, PAST", x.goer(1, 3), -1);
  }

  @Bounds.Holds(promise = 5, says = "-2.")
  static void goerRefused() {
    for (int goers = 0; goers <= 4; goers++) {
      SleepAct x = Bounds.told(Bounds.HEAD + "goer loud 1 at 3;".repeat(goers));
      for (int g : new int[] {-1, goers, goers + 1, 4, Integer.MIN_VALUE, Integer.MAX_VALUE}) {
        for (int what = 0; what < 4; what++) Bounds.due("goer(" + g + ", " + what + ")", x.goer(g, what), -2);
      }
      for (int g = 0; g < goers; g++) {
        for (int what : new int[] {-1, 4, Integer.MIN_VALUE, Integer.MAX_VALUE}) Bounds.due("goer(" + g + ", " + what + ")", x.goer(g, what), -2);
        Bounds.due("the last that is", x.goer(g, 0), 3);
      }
    }
  }

  /** Sets below 0 and above all goers, for as many goers as there are. */
  private static int[] noSets(int goers) {
    return new int[] {-1, 1 << goers, 1 << goers | 1, 2 << goers, 16, 31, -16, 1 << 30, Integer.MIN_VALUE, Integer.MAX_VALUE};
  }

  @Bounds.Holds(promise = 6, says = "-3: others are in the set;")
  static void byOthers() {
    for (int goers = 0; goers <= 4; goers++) {
      SleepAct x = Bounds.told(Bounds.HEAD + "goer loud 0;".repeat(goers));
      for (int set : noSets(goers)) Bounds.due("by(" + set + ") of " + goers, x.by(set), -3);
      Bounds.due("by all of " + goers, x.by((1 << goers) - 1), 5);
      Bounds.due("by nobody of " + goers, x.by(0), 5);
    }
  }

  @Bounds.Holds(promise = 6, says = "-5: one is PAST, it is AWAKE.")
  static void byRefused() {
    SleepAct x = Bounds.told(Bounds.HEAD + "goer loud 0;goer loud 0 at 3;");
    Bounds.due("by(2)", x.by(2), -5);
    Bounds.due("by(3)", x.by(3), -5);
    Bounds.due("by(1)", x.by(1), 5);
    Bounds.due("others are told first", x.by(6), -3);
    x = Bounds.awake();
    for (int set = 0; set < 4; set++) Bounds.due("AWAKE, by(" + set + ")", x.by(set), -5);
    Bounds.due("AWAKE, others are told first", x.by(4), -3);
  }

  @Bounds.Holds(promise = 6, says = "The DEPTH behind an HOUR with a set now.")
  static void byDoesNothing() {
    SleepAct x = Bounds.told("street 1 house 0 depth 1;goer loud 9;");
    long[] before = Bounds.stand(x);
    Bounds.due("by(1) would wake it", x.by(1), 0);
    Bounds.due("by(0)", x.by(0), 2);
    Bounds.same("by", Bounds.stand(x), before);
  }

  @Bounds.Holds(promise = 7, says = "An HOUR: the DEPTH then. -11 to -13.")
  static void hourRefused() {
    for (int goers = 0; goers <= 4; goers++) {
      SleepAct x = Bounds.told(Bounds.HEAD + "goer loud 0;".repeat(goers));
      long[] before = Bounds.stand(x);
      for (int set : noSets(goers)) Bounds.due("hour(" + set + ") of " + goers, x.hour(set), -11);
      Bounds.same("hour", Bounds.stand(x), before);
      Bounds.due("hour of all", x.hour((1 << goers) - 1), 5);
      Bounds.due("hour of nobody", x.hour(0), 6);
    }
    SleepAct x = Bounds.told(Bounds.HEAD + "goer loud 0;goer loud 0 at 3;");
    long[] before = Bounds.stand(x);
    Bounds.due("PAST", x.hour(2), -12);
    Bounds.due("one of them is PAST", x.hour(3), -12);
    Bounds.due("no set, and PAST", x.hour(7), -11);
    Bounds.same("hour", Bounds.stand(x), before);
    x = Bounds.awake();
    before = Bounds.stand(x);
    Bounds.due("AWAKE", x.hour(1), -13);
    Bounds.due("AWAKE, nobody", x.hour(0), -13);
    Bounds.due("AWAKE, and PAST", x.hour(2), -12);
    Bounds.due("AWAKE, no set, and PAST", x.hour(6), -11);
    Bounds.same("hour", Bounds.stand(x), before);
  }

  @Bounds.Holds(promise = 8, says = "n HOURS (1 to 99) in which nobody STEPS, till it wakes: the DEPTH then.")
  static void hoursTillItWakes() {
    SleepAct x = Bounds.told("street 1 house 0 depth 9;goer loud 9;");
    Bounds.due("hours(1)", x.hours(1), 9);
    Bounds.due("hours", x.count(6), 1);
    Bounds.due("hours(99)", x.hours(99), 9);
    Bounds.due("hours", x.count(6), 100);
    Bounds.due("nobody stepped", x.goer(0, 0), 0);
    x = Bounds.told("street 1 house 0 depth 9;sleeps:depth-1;");
    Bounds.due("hours(8)", x.hours(8), 1);
    Bounds.due("hours(99), one till it wakes", x.hours(99), 0);
    Bounds.due("hours", x.count(6), 9);
    Bounds.due("undone as a whole", x.undo(1), 1);
    Bounds.due("hours", x.count(6), 8);
    x.undo(1);
    Bounds.due("hours(9), as many as it takes", x.hours(9), 0);
    Bounds.due("hours", x.count(6), 9);
  }

  @Bounds.Holds(promise = 8, says = "-11: n; -13.")
  static void hoursRefused() {
    SleepAct x = Bounds.told(Bounds.HEAD);
    long[] before = Bounds.stand(x);
    for (int n : new int[] {0, -1, 100, 101, Integer.MIN_VALUE, Integer.MAX_VALUE}) Bounds.due("hours(" + n + ")", x.hours(n), -11);
    Bounds.same("hours", Bounds.stand(x), before);
    x = Bounds.awake();
    before = Bounds.stand(x);
    Bounds.due("AWAKE", x.hours(1), -13);
    Bounds.due("AWAKE", x.hours(99), -13);
    Bounds.due("AWAKE, n is told first", x.hours(0), -11);
    Bounds.due("AWAKE, n is told first", x.hours(100), -11);
    Bounds.same("hours", Bounds.stand(x), before);
  }

  @Bounds.Holds(promise = 9, says = "A HINT, is 1 or 0: how many ways WHAT IT SAYS there are then. -11.")
  static void hintRefused() {
    SleepAct x = Bounds.told(Bounds.HEAD + "people 8;");
    Bounds.due("hint(0, 7, 0)", x.hint(0, 7, 0), 90);
    Bounds.due("hint(7, 0, 1)", x.hint(7, 0, 1), 15);
    Bounds.due("hint(6, 0, 1), none then", x.hint(6, 0, 1), 0);
    long[] before = Bounds.stand(x);
    int[][] no = {{0, 1, 2}, {0, 1, -1}, {0, 8, 0}, {8, 0, 0}, {-1, 0, 0}, {0, -1, 1}, {3, 3, 0}, {3, 3, 1}, {0, 1, Integer.MAX_VALUE},
      {Integer.MIN_VALUE, 1, 0}, {0, Integer.MAX_VALUE, 0}, {8, 8, 2}};
    for (int[] h : no) Bounds.due("hint(" + h[0] + ", " + h[1] + ", " + h[2] + ")", x.hint(h[0], h[1], h[2]), -11);
    Bounds.same("hint", Bounds.stand(x), before);
    for (int people = 0; people < 2; people++) {
      x = Bounds.told(Bounds.HEAD + "people " + people + ";");
      Bounds.due("hint(0, 1, 0) of " + people, x.hint(0, 1, 0), -11);
      Bounds.due("hint(0, 0, 0) of " + people, x.hint(0, 0, 0), -11);
    }
    Bounds.due("without a text", new SleepAct().hint(0, 1, 1), -11);
    Bounds.due("AWAKE it can be", Bounds.awake().hint(0, 1, 1), 1);
  }

  @Bounds.Holds(promise = 10, says = "To have another DRAUGHT (0 to 9): what it was. -11.")
  static void draughtRefused() {
    SleepAct x = Bounds.told(Bounds.HEAD + "draught 3;");
    Bounds.due("draught(0)", x.draught(0), 3);
    Bounds.due("draught(9)", x.draught(9), 0);
    Bounds.due("count(5)", x.count(5), 9);
    long[] before = Bounds.stand(x);
    for (int n : new int[] {-1, 10, Integer.MIN_VALUE, Integer.MAX_VALUE}) Bounds.due("draught(" + n + ")", x.draught(n), -11);
    Bounds.same("draught", Bounds.stand(x), before);
    Bounds.due("the same", x.draught(9), 9);
    Bounds.due("AWAKE it can be", Bounds.awake().draught(9), 0);
  }

  // ---- undoing

  @Bounds.Holds(promise = 0, says = "Calls that did some can be UNDONE each as a whole, the latest first, 10 at most (eldest are forgotten): GOERS, DEPTH, HINTS, DRAUGHT, HOURS.")
  static void tenCallsCanBeUndone() {
    SleepAct x = Bounds.told("street 6 house 0 depth 5;goer loud 0;people 4;");
    for (int i = 1; i <= 9; i++) {
      x.draught(i);
      Bounds.due("calls", x.count(7), i);
    }
    x.hour(1);
    Bounds.due("ten", x.count(7), 10);
    x.hint(0, 1, 1);
    Bounds.due("still ten", x.count(7), 10);
    x.hours(2);
    Bounds.due("still ten", x.count(7), 10);
    Bounds.due("undo(1): the hours", x.undo(1), 9);
    Bounds.due("hours", x.count(6), 1);
    Bounds.due("depth", x.count(3), 6);
    Bounds.due("undo(1): the hint", x.undo(1), 8);
    Bounds.due("hints", x.hints(1), 0);
    Bounds.due("hours", x.count(6), 1);
    Bounds.due("undo(1): the hour", x.undo(1), 7);
    Bounds.due("hours", x.count(6), 0);
    Bounds.due("goer", x.goer(0, 0), 0);
    Bounds.due("depth", x.count(3), 5);
    Bounds.due("draught", x.count(5), 9);
    Bounds.due("undo(7)", x.undo(7), 0);
    Bounds.due("the two eldest are forgotten", x.count(5), 2);
    Bounds.due("undo(1)", x.undo(1), -3);
    // those that did none
    x.hour(9);
    x.hours(0);
    x.hint(0, 0, 1);
    x.draught(10);
    x.undo(1);
    Bounds.tray(x, 0, 99);
    x.perform(0);
    Bounds.due("calls that did none", x.count(7), 0);
    Bounds.tray(x, 0, 105, 0, 1, 201, 99);
    Bounds.due("perform", x.perform(0), 4);
    Bounds.due("one call", x.count(7), 1);
    Bounds.due("undone as a whole", x.undo(1), 0);
    Bounds.due("draught", x.count(5), 2);
    Bounds.due("hints", x.hints(1), 0);
    Bounds.due("hours", x.count(6), 0);
  }

  @Bounds.Holds(promise = 0, says = "(eldest are forgotten): GOERS, DEPTH, HINTS, DRAUGHT, HOURS.")
  static void allIsBroughtBack() {
    for (int call = 0; call < 7; call++) {
      SleepAct x = Bounds.told("street 6 house 0 depth 5;goer loud 2;goer loud 0 at 2;people 5;draught 4;not 0 1;bound 2 3;");
      Bounds.tray(x, 0, 1, 107, 2, 202, 332, 0);
      for (int calls = 0; calls < 2; calls++) {
        long[] before = Bounds.stand(x);
        long got = call == 0 ? x.hour(2) : call == 1 ? x.hours(3) : call == 2 ? x.hint(0, 1, 1) : call == 3 ? x.draught(8)
            : call == 4 ? x.perform(0) : call == 5 ? x.night(6, 40) : x.hint(4, 3, 0);
        Bounds.due("call " + call + " did some", got >= 0 ? 1 : 0, 1);
        Bounds.due("calls", x.count(7), calls + 1);
        Bounds.due("undo(1)", x.undo(1), calls);
        Bounds.same("call " + call + " and undo(1)", Bounds.stand(x), before);
        // something else is done, by which all is another way
        x.numbers(1, 3, 3);
        x.write(1, 0, 3);
        x.write(1, 1, 106);
        x.write(1, 2, 314);
        Bounds.due("perform", x.perform(1), 3);
      }
    }
  }

  @Bounds.Holds(promise = 11, says = "n calls (1 to 10) are UNDONE: how many still can be.")
  static void undoSome() {
    for (int n = 1; n <= 10; n++) {
      SleepAct x = new SleepAct();
      for (int i = 0; i < 10; i++) x.hour(0);
      Bounds.due("undo(" + n + ")", x.undo(n), 10 - n);
      Bounds.due("calls", x.count(7), 10 - n);
      Bounds.due("hours", x.count(6), 10 - n);
    }
    SleepAct x = new SleepAct();
    for (int i = 0; i < 30; i++) x.hour(0);
    Bounds.due("undo(10)", x.undo(10), 0);
    Bounds.due("hours", x.count(6), 20);
    x.hour(0);
    Bounds.due("undo(1)", x.undo(1), 0);
    Bounds.due("hours", x.count(6), 20);
  }

  @Bounds.Holds(promise = 11, says = "-3: n, more than can be.")
  static void undoRefused() {
    SleepAct x = new SleepAct();
    Bounds.due("undo(1) of none", x.undo(1), -3);
    Bounds.due("undo(0) of none", x.undo(0), -3);
    for (int i = 0; i < 9; i++) x.hour(0);
    long[] before = Bounds.stand(x);
    for (int n : new int[] {0, -1, 10, 11, Integer.MIN_VALUE, Integer.MAX_VALUE}) Bounds.due("undo(" + n + ") of 9", x.undo(n), -3);
    Bounds.same("undo", Bounds.stand(x), before);
    for (int i = 0; i < 9; i++) x.hour(0);
    Bounds.due("undo(11) of 10", x.undo(11), -3);
    Bounds.due("undo(10) of 10", x.undo(10), 0);
  }

  // ---- deeds in trays

  private static void judged(long v, int why) {
    SleepAct x = Bounds.told("street 1 house 0 depth 5;people 8;" + SILENT4);
    Bounds.tray(x, 1, v);
    Bounds.due("where not, " + v, x.judge(1, 0), why == 0 ? -1 : 0);
    Bounds.due("why not, " + v, x.judge(1, 1), why);
    Bounds.due("done, " + v, x.perform(1), why == 0 ? 1 : 0);
  }

  @Bounds.Holds(promise = 0, says = "0 to 15: an HOUR with the set v of GOERS, as bits;")
  static void deeds0to15() {
    for (int v = 0; v < 16; v++) {
      judged(v, 0);
      for (int goers = 0; goers <= 4; goers++) {
        SleepAct x = Bounds.told("street 1 house 0 depth 5;" + "goer loud 0;".repeat(goers));
        Bounds.tray(x, 0, v);
        boolean can = v < 1 << goers;
        Bounds.due("why not, " + v, x.judge(0, 1), can ? 0 : 1);
        Bounds.due("who is PAST then, " + v, x.judge(0, 3), can ? v : 0);
        Bounds.due("the DEPTH then, " + v, x.judge(0, 2), can ? 6 : 5);
      }
    }
    judged(-1, 1);
    judged(16, 1);
    judged(17, 1);
    judged(31, 1);
    judged(1L << 32, 1);
  }

  @Bounds.Holds(promise = 0, says = "100 to 109: DRAUGHT v - 100;")
  static void deeds100to109() {
    for (int v = 100; v < 110; v++) {
      judged(v, 0);
      SleepAct x = new SleepAct();
      x.draught(5);
      Bounds.tray(x, 0, v);
      x.perform(0);
      Bounds.due("draught by " + v, x.count(5), v - 100);
      Bounds.due("no HOUR", x.count(6), 0);
    }
    judged(99, 1);
    judged(110, 1);
    judged((1L << 32) + 105, 1);
  }

  @Bounds.Holds(promise = 0, says = "200 to 299: a HINT that PEOPLE (v - 200) by 10 and v modulo 10 are bound;")
  static void deeds200to299() {
    hintDeeds(200, 1);
    judged(199, 1);
    judged((1L << 32) + 201, 1);
  }

  @Bounds.Holds(promise = 0, says = "300 to 399: that PEOPLE (v - 300) by 10 and v modulo 10 aren't;")
  static void deeds300to399() {
    hintDeeds(300, 0);
    judged(400, 1);
    judged(401, 1);
    judged((1L << 32) + 301, 1);
  }

  private static void hintDeeds(int base, int is) {
    for (int people = 0; people <= 8; people += 4) {
      for (int p = 0; p < 10; p++) {
        for (int q = 0; q < 10; q++) {
          SleepAct x = Bounds.told("street 1 house 0 depth 5;people " + people + ";");
          boolean can = p < people && q < people && p != q;
          Bounds.tray(x, 0, base + 10 * p + q);
          Bounds.due("hint of " + p + ", " + q, x.perform(0), can ? 1 : 0);
          Bounds.due("hints", x.hints(is), can ? 1 : 0);
          Bounds.due("other hints", x.hints(1 - is), 0);
          if (can) Bounds.due("it is of these", x.odds(p, q, 0), is);
        }
      }
    }
  }

  @Bounds.Holds(promise = 0, says = "others: 1.")
  static void otherDeeds() {
    for (long v : new long[] {-1, -100, 16, 50, 99, 110, 150, 199, 400, 1000, Long.MIN_VALUE, Long.MAX_VALUE, 1L << 40}) judged(v, 1);
    // cut to 8 bits: 200 is -56 there
    SleepAct x = Bounds.told(Bounds.HEAD + "people 8;");
    x.numbers(0, 0, 1);
    Bounds.due("201 in 8 bits", x.write(0, 0, 201), 201 - 256);
    Bounds.due("why not", x.judge(0, 1), 1);
    Bounds.due("256 in 8 bits", x.write(0, 0, 256), 0);
    Bounds.due("an HOUR", x.judge(0, 1), 0);
  }

  @Bounds.Holds(promise = 12, says = "DEEDS, judged as if done, what 0: the first place that can't be (NONE), 1: why (0), 2: the DEPTH then, 3: who is PAST then, as bits.")
  static void judgeFirstPlace() {
    SleepAct x = Bounds.told("street 1 house 0 depth 5;goer loud 0;goer loud 0;people 2;");
    long[] before = Bounds.stand(x);
    judge(x, -1, 0, 5, 0);
    judge(x, -1, 0, 7, 3, 1, 2);
    judge(x, 0, 1, 5, 0, 4, 1, 2);
    judge(x, 1, 2, 6, 1, 1, 1, 2);
    judge(x, 2, 1, 7, 3, 1, 2, 400);
    judge(x, 3, 2, 6, 3, 109, 3, 201, 1, 0, 0);
    x.numbers(0, 0, 0);
    Bounds.same("judge", Bounds.stand(x), standWithEmptyTray(before, x));
    x = Bounds.told("street 1 house 0 depth 1;goer loud 9;");
    judge(x, 1, 3, 0, 1, 1, 0);
    judge(x, -1, 0, 0, 1, 1);
    long[] forty = new long[40];
    judge(x, -1, 0, 9, 0, forty);
    forty[39] = 400;
    judge(x, 39, 1, 9, 0, forty);
  }

  /** Tray 0 was missing ahead, and is empty then: so much may differ. */
  private static long[] standWithEmptyTray(long[] before, SleepAct x) {
    long[] now = Bounds.stand(x);
    long[] want = before.clone();
    for (int i = 55; i < 62; i++) want[i] = now[i];
    return want;
  }

  private static void judge(SleepAct x, int place, int why, int depth, int past, long... v) {
    Bounds.tray(x, 0, v);
    int[] want = {place, why, depth, past};
    for (int what = 0; what < 4; what++) Bounds.due("judge(0, " + what + ")", x.judge(0, what), want[what]);
  }

  @Bounds.Holds(promise = 12, says = "-2: the TRAY, what; -6.")
  static void judgeRefused() {
    SleepAct x = new SleepAct();
    x.numbers(1, 0, 1);
    for (int t : new int[] {-1, 4, Integer.MIN_VALUE, Integer.MAX_VALUE}) Bounds.due("judge(" + t + ", 0)", x.judge(t, 0), -2);
    for (int what : new int[] {-1, 4, Integer.MIN_VALUE, Integer.MAX_VALUE}) {
      Bounds.due("judge(1, " + what + ")", x.judge(1, what), -2);
      Bounds.due("what is told ahead of MISSING", x.judge(0, what), -2);
    }
    for (int t : new int[] {0, 2, 3}) for (int what = 0; what < 4; what++) Bounds.due("MISSING", x.judge(t, what), -6);
  }

  @Bounds.Holds(promise = 13, says = "They are done, till one can't be: how many.")
  static void performTill() {
    SleepAct x = Bounds.told("street 1 house 0 depth 5;goer loud 0;people 2;");
    Bounds.tray(x, 3);
    Bounds.due("of an empty tray", x.perform(3), 0);
    Bounds.tray(x, 3, 2, 0, 0);
    Bounds.due("the first can't be", x.perform(3), 0);
    Bounds.due("nothing was done", x.count(6) + x.count(7), 0);
    Bounds.tray(x, 3, 0, 2);
    Bounds.due("the second can't be", x.perform(3), 1);
    Bounds.due("one call", x.count(7), 1);
    Bounds.due("undo(1)", x.undo(1), 0);
    Bounds.due("hours", x.count(6), 0);
    Bounds.tray(x, 3, 0, 1, 1, 0, 0);
    Bounds.due("the third can't be", x.perform(3), 2);
    Bounds.due("hours", x.count(6), 2);
    Bounds.due("one call", x.count(7), 1);
    Bounds.tray(x, 3, new long[40]);
    Bounds.due("forty", x.perform(3), 40);
    Bounds.due("hours", x.count(6), 42);
    Bounds.due("two calls", x.count(7), 2);
  }

  @Bounds.Holds(promise = 13, says = "-2; -6.")
  static void performRefused() {
    SleepAct x = new SleepAct();
    for (int t : new int[] {-1, 4, Integer.MIN_VALUE, Integer.MAX_VALUE}) Bounds.due("perform(" + t + ")", x.perform(t), -2);
    for (int t = 0; t < 4; t++) Bounds.due("perform(" + t + ")", x.perform(t), -6);
    Bounds.due("calls", x.count(7), 0);
  }

  // ---- nights

  /** The draws of a seed, by long arithmetic modulo 2 to the 32nd. */
  private static int[] draws(int seed, int n) {
    int[] all = new int[n];
    long x = seed & 0xffffffffL;
    for (int i = 0; i < n; i++) {
      x = (1103515245L * x + 12345L) % 4294967296L;
      all[i] = (int) (x / 65536);
    }
    return all;
  }

  @Bounds.Holds(promise = 0, says = "a DRAW: x becomes 1103515245 x + 12345, it is x >>> 16")
  static void drawsWrapAround() {
    for (int seed : new int[] {0, 1, -1, 2, 65535, 65536, Integer.MIN_VALUE, Integer.MAX_VALUE, -1103515245, 987654321}) {
      // the first deeds that a night tells, one by one
      SleepAct x = Bounds.told("street 6 house 0 depth 9;" + SILENT4 + "people 8;noise:0;");
      SleepAct y = Bounds.told("street 6 house 0 depth 9;" + SILENT4 + "people 8;noise:0;");
      int[] draws = draws(seed, 120);
      int at = 0;
      int could = 0;
      for (int i = 0; i < 40; i++) {
        int kind = draws[at++] % 6;
        if (kind < 2) could += y.hour(0) >= 0 ? 1 : 0;
        else if (kind < 4) could += y.hour(1 << draws[at++] % 4) >= 0 ? 1 : 0;
        else if (kind == 4) could += y.draught(draws[at++] % 10) >= 0 ? 1 : 0;
        else could += y.hint(draws[at++] % 8, draws[at++] % 8, 0) >= 0 ? 1 : 0;
      }
      Bounds.due("night(" + seed + ", 40)", x.night(seed, 40), could);
      for (int what = 3; what < 7; what++) Bounds.due("count(" + what + ")", x.count(what), y.count(what));
      for (int g = 0; g < 4; g++) Bounds.due("goer " + g, x.goer(g, 0), y.goer(g, 0));
      Bounds.due("hints", x.hints(0), y.hints(0));
      Bounds.due("ways", x.ways(), y.ways());
    }
  }

  @Bounds.Holds(promise = 0, says = "so many times (1 to 40): DRAW modulo 6: 0, 1 an HOUR, nobody STEPS; 2, 3 an HOUR with GOER DRAW modulo 4 alone; 4 DRAUGHT DRAW modulo 10; 5 a HINT that PEOPLE DRAW modulo 8 and DRAW modulo 8 aren't bound; as in a TRAY, if it can be.")
  static void eachKindOfDraw() {
    boolean[] kinds = new boolean[6];
    for (int seed = 0; seed < 300; seed++) {
      int[] draws = draws(seed, 3);
      int kind = draws[0] % 6;
      kinds[kind] = true;
      SleepAct x = Bounds.told("street 1 house 0 depth 5;goer loud 0;goer loud 0 at 1;goer loud 0;people 6;draught 5;");
      int goer = draws[1] % 4;
      int p = draws[1] % 8;
      int q = draws[2] % 8;
      boolean steps = kind == 2 || kind == 3;
      boolean can = steps ? goer == 0 || goer == 2 : kind != 5 || p < 6 && q < 6 && p != q;
      Bounds.due("night(" + seed + ", 1)", x.night(seed, 1), can ? 1 : 0);
      Bounds.due("calls", x.count(7), can ? 1 : 0);
      Bounds.due("hours", x.count(6), kind < 4 && can ? 1 : 0);
      Bounds.due("who is PAST", x.count(4), 2 | (steps && can ? 1 << goer : 0));
      Bounds.due("draught", x.count(5), kind == 4 ? draws[1] % 10 : 5);
      Bounds.due("hints", x.hints(0), kind == 5 && can ? 1 : 0);
      if (kind == 5 && can) Bounds.due("it is of these", x.odds(p, q, 0), 0);
    }
    for (boolean kind : kinds) Bounds.due("each kind was drawn", kind ? 1 : 0, 1);
  }

  @Bounds.Holds(promise = 14, says = "A NIGHT: how many could be. -3: how many times.")
  static void nightRefused() {
    SleepAct x = new SleepAct();
    long[] before = Bounds.stand(x);
    for (int n : new int[] {0, -1, 41, Integer.MIN_VALUE, Integer.MAX_VALUE}) Bounds.due("night(1, " + n + ")", x.night(1, n), -3);
    Bounds.same("night", Bounds.stand(x), before);
    // seed 0: DRAW 0 at first
    Bounds.due("night(0, 1)", x.night(0, 1), 1);
    Bounds.due("hours", x.count(6), 1);
    Bounds.due("night(0, 40)", x.night(0, 40) > 0 ? 1 : 0, 1);
    Bounds.due("undone as a whole", x.undo(1), 1);
    Bounds.due("hours", x.count(6), 1);
    x = Bounds.awake();
    before = Bounds.stand(x);
    Bounds.due("nothing can be", x.night(0, 1), 0);
    Bounds.same("a night in which nothing can be", Bounds.stand(x), before);
    // behind the one that wakes it, draughts and hints still can be
    x = Bounds.told("street 1 house 0 depth 1;people 8;sleeps:0;");
    int[] draws = draws(7, 120);
    int at = 0;
    int could = 1;
    for (int i = 0; i < 40; i++) {
      int kind = draws[at++] % 6;
      if (kind == 2 || kind == 3) at++;
      if (kind == 4) {
        could++;
        at++;
      }
      if (kind == 5) could += draws[at++] % 8 != draws[at++] % 8 ? 1 : 0;
    }
    Bounds.due("one HOUR, then no more", x.night(7, 40), could);
    Bounds.due("hours", x.count(6), 1);
  }
}
