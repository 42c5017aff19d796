/** Boundary sentences about what trays tell, about trays, images, counts: promises 29, 30, 33 to 40 and their terms. */
final class TrayBounds {
  private static final int[] NO_TRAYS = {-1, 4, Integer.MIN_VALUE, Integer.MAX_VALUE};

  private TrayBounds() {
  }

  // ---- slept

  @Bounds.Holds(promise = 0, says = "DRAUGHTS 0 to 9 by which it is so (behind an HOUR in which it wakes, it stays AWAKE).")
  static void sleptTillItWakes() {
    SleepAct x = Bounds.told("street 1 house 0 depth 1;draught 3;goer loud 0;sleeps:if depth=1 then draught else depth-draught end;");
    for (int n = 0; n <= 9; n++) {
      Bounds.tray(x, 0, n);
      Bounds.due("depth " + n, x.draughts(0), 1 << n);
    }
    Bounds.tray(x, 0, 0, 0, 0, 0, 0, 0, 0, 0, 0, 0);
    Bounds.due("it wakes and stays so", x.draughts(0), 1);
    Bounds.tray(x, 0, 0, 1);
    Bounds.due("it sleeps no more", x.draughts(0), 0);
    Bounds.tray(x, 0, 9, 0, 0);
    Bounds.due("9, then AWAKE", x.draughts(0), 512);
    Bounds.tray(x, 0, 9, 0, 9);
    Bounds.due("9, then AWAKE, then no more", x.draughts(0), 0);
    x = Bounds.told("street 1 house 0 depth 1;sleeps:if depth=1 then 0 else 5 end;");
    Bounds.tray(x, 0, 0, 0);
    Bounds.due("whatever the law", x.draughts(0), 1023);
    Bounds.tray(x, 0, 0, 5);
    Bounds.due("whatever the law", x.draughts(0), 0);
    x = Bounds.awake();
    Bounds.tray(x, 0, 0, 0);
    Bounds.due("AWAKE now", x.draughts(0), 1023);
    Bounds.tray(x, 0, 1);
    Bounds.due("AWAKE now", x.draughts(0), 0);
  }

  @Bounds.Holds(promise = 0, says = "SLEPT in a TRAY (1 to 10 numbers): DEPTHS behind one HOUR after another from now on in which nobody STEPS:")
  static void sleptOneTo10Hours() {
    // one deeper each hour by draught 4, one less deep by 5, two less by 6, else as it is
    SleepAct x = Bounds.told("street 1 house 0 depth 5;goer loud 9;draught 3;sleeps:if steps>0 then 0 else if draught=4 then depth+1 else "
        + "if draught=5 then depth-1 else if draught=6 then depth-2 else depth end end end end;");
    int[][] slept = {{6, 7, 8, 9, 9, 9, 9, 9, 9, 9}, {4, 3, 2, 1, 0, 0, 0, 0, 0, 0}, {3, 1, 0, 0, 0, 0, 0, 0, 0, 0}, {5, 5, 5, 5, 5, 5, 5, 5, 5, 5}};
    int[] draughts = {16, 32, 64, 1023 - 112};
    for (int k = 0; k < 4; k++) {
      for (int n = 1; n <= 10; n++) {
        long[] v = new long[n];
        for (int i = 0; i < n; i++) v[i] = slept[k][i];
        Bounds.tray(x, 0, v);
        Bounds.due(n + " hours of row " + k, x.draughts(0), draughts[k]);
        v[n - 1] = v[n - 1] == 9 ? 8 : v[n - 1] + 1;
        if (n > 1) x.write(0, n - 1, v[n - 1]);
        if (n > 1) Bounds.due("the last of " + n + " is another one", x.draughts(0), 0);
      }
    }
    Bounds.tray(x, 0, 5);
    x.hours(1);
    x.draught(5);
    x.hours(2);
    Bounds.due("from now on: 3", x.count(3), 3);
    Bounds.tray(x, 0, 2, 1, 0);
    Bounds.due("from now on", x.draughts(0), 32);
  }

  @Bounds.Holds(promise = 29, says = "SLEPT: DRAUGHTS, as bits. -2: the TRAY; -6; -4: not 1 to 10 numbers; -3: one is not 0 to 9.")
  static void draughtsRefused() {
    SleepAct x = new SleepAct();
    refusedAsDraughts(x, false);
    Bounds.tray(x, 0, 9, 9, 9, 9, 9, 9, 9, 9, 9, 9);
    Bounds.due("ten numbers", x.draughts(0), 1023);
    Bounds.tray(x, 0, 9);
    Bounds.due("one number", x.draughts(0), 1023);
    Bounds.due("nothing was done", x.count(6) + x.count(5), 0);
    refusedAsDraughts(Bounds.awake(), false);
  }

  private static int ask(SleepAct x, int tray, boolean attempt) {
    return attempt ? x.attempt(tray) : x.draughts(tray);
  }

  private static void refusedAsDraughts(SleepAct x, boolean attempt) {
    for (int t : NO_TRAYS) Bounds.due("no tray", ask(x, t, attempt), -2);
    for (int t = 0; t < 4; t++) Bounds.due("MISSING", ask(x, t, attempt), -6);
    Bounds.tray(x, 3);
    Bounds.due("no number", ask(x, 3, attempt), -4);
    Bounds.tray(x, 3, new long[11]);
    Bounds.due("eleven", ask(x, 3, attempt), -4);
    Bounds.tray(x, 3, 10, 0, 0, 0, 0, 0, 0, 0, 0, 0, 0);
    Bounds.due("eleven, and 10 among them", ask(x, 3, attempt), -4);
    Bounds.tray(x, 3, new long[40]);
    Bounds.due("forty", ask(x, 3, attempt), -4);
    for (long v : new long[] {-1, 10, 1L << 32, Long.MIN_VALUE, Long.MAX_VALUE}) {
      Bounds.tray(x, 3, v);
      Bounds.due("number " + v, ask(x, 3, attempt), -3);
      Bounds.tray(x, 3, 0, 0, 0, 0, 0, 0, 0, 0, 0, v);
      Bounds.due("the tenth number " + v, ask(x, 3, attempt), -3);
    }
    // cut to 8 bits: 256 is 0 there
    x.numbers(3, 0, 1);
    x.write(3, 0, 265);
    Bounds.due("9 in 8 bits", ask(x, 3, attempt) == -3 ? 1 : 0, 0);
    x.write(3, 0, 255);
    Bounds.due("-1 in 8 bits", ask(x, 3, attempt), -3);
    x.numbers(3, 3, 0);
  }

  @Bounds.Holds(promise = 30, says = "the greatest number of these DRAUGHTS by which the DEPTH is the same then is least, the first set (by numbers) of GOERS that aren't PAST.")
  static void attemptOfLikeOnesTheFirst() {
    String nobody = "if steps=0 then 5 else ";
    SleepAct x = Bounds.told("street 1 house 0 depth 5;goer loud 0;goer loud 0;sleeps:" + nobody + "5 end;");
    Bounds.tray(x, 0, 5);
    Bounds.due("all alike: nobody", x.attempt(0), 0);
    x = Bounds.told("street 1 house 0 depth 5;goer loud 0;goer loud 0;sleeps:" + nobody + "draught end;");
    Bounds.tray(x, 0, 5);
    Bounds.due("one each: the first of 1, 2, 3", x.attempt(0), 1);
    x = Bounds.told("street 1 house 0 depth 5;goer loud 0 at 1;goer loud 0;sleeps:" + nobody + "draught end;");
    Bounds.tray(x, 0, 5);
    Bounds.due("0 is PAST", x.attempt(0), 2);
    x = Bounds.told("street 1 house 0 depth 5;goer loud 0;goer loud 0;sleeps:" + nobody + "if steps=1 then draught*2 else draught end end;");
    Bounds.tray(x, 0, 5);
    Bounds.due("both: ten depths, one alone: six", x.attempt(0), 3);
    // 0 may be a depth as others: two sets with 5 and 5, 9 and 1
    x = Bounds.told("street 1 house 0 depth 5;goer loud 0;goer loud 0;noise:goer+1;sleeps:" + nobody
        + "if noise=1 then if draught<9 then 0 else 9 end else if draught<5 then 0 else 9 end end end;");
    Bounds.tray(x, 0, 5);
    Bounds.due("five and five", x.attempt(0), 2);
    // by nobody's hour all is told apart: of one draught the first set
    x = Bounds.told("street 1 house 0 depth 5;goer loud 0;sleeps:draught;");
    Bounds.tray(x, 0, 7);
    Bounds.due("one is left: nobody", x.attempt(0), 0);
    x = Bounds.told("street 1 house 0 depth 5;goer loud 0 at 1;sleeps:draught;");
    Bounds.tray(x, 0, 7);
    Bounds.due("all are PAST: nobody", x.attempt(0), 0);
    // 0 and 9 count, too: by goer 0 the draughts 0 and 1 tell the same, or 8 and 9, by goer 1 all differ
    for (String law : new String[] {"draught-1", "draught+1"}) {
      x = Bounds.told("street 1 house 0 depth 5;goer loud 0;goer loud 0;noise:goer+1;sleeps:" + nobody + "if noise=1 then " + law + " else draught end end;");
      Bounds.tray(x, 0, 5);
      Bounds.due("all ten told apart", x.attempt(0), 2);
    }
    // of these draughts only: by 5 to 9 it slept so, 0 to 4 don't count
    x = Bounds.told("street 1 house 0 depth 5;goer loud 0;goer loud 0;noise:goer+1;sleeps:if steps=0 then if draught>4 then 6 else 5 end"
        + " else if noise=1 then if draught>4 then 9 else draught end else if draught>4 then draught else 9 end end end;");
    Bounds.tray(x, 0, 6);
    Bounds.due("5 to 9", x.attempt(0), 2);
    Bounds.tray(x, 0, 5);
    Bounds.due("0 to 4", x.attempt(0), 1);
  }

  @Bounds.Holds(promise = 30, says = "NONE: there are none; as draughts(); -5: it is AWAKE.")
  static void attemptRefused() {
    SleepAct x = new SleepAct();
    refusedAsDraughts(x, true);
    Bounds.tray(x, 0, 8);
    Bounds.due("there are none", x.attempt(0), -1);
    Bounds.tray(x, 0, 9);
    Bounds.due("there are ten", x.attempt(0), 0);
    x = Bounds.awake();
    for (int t : NO_TRAYS) Bounds.due("AWAKE, no tray", x.attempt(t), -2);
    Bounds.due("AWAKE, MISSING", x.attempt(1), -6);
    Bounds.tray(x, 1);
    Bounds.due("AWAKE, no number", x.attempt(1), -4);
    Bounds.tray(x, 1, 10);
    Bounds.due("AWAKE, 10", x.attempt(1), -3);
    Bounds.tray(x, 1, 0);
    Bounds.due("AWAKE", x.attempt(1), -5);
    Bounds.tray(x, 1, 5);
    Bounds.due("AWAKE, there are none", x.attempt(1), -5);
  }

  // ---- chances

  @Bounds.Holds(promise = 0, says = "in each HOUR a cart passes as likely as told, each by itself: its noise is added to all NOISE; once it wakes it stays AWAKE.")
  static void cartsAndSleep() {
    // it wakes by a cart, and would sleep again by the law
    SleepAct x = Bounds.told("street 1 house 0 depth 5;cart 5 noise 1;sleeps:if depth=0 then 9 else if noise=1 then 0 else 5 end end;");
    int below = 1;
    for (int n = 1; n <= 6; n++) {
      below *= 2;
      Bounds.tray(x, 0, new long[n]);
      Bounds.due("above, " + n + " hours", x.chance(0, 0), 1);
      Bounds.due("below, " + n + " hours", x.chance(0, 1), below);
      Bounds.due("mean above, " + n + " hours", x.mean(0, 0), 5);
      Bounds.due("mean below, " + n + " hours", x.mean(0, 1), below);
    }
    // a cart that never passes, one that always does, one without noise
    x = Bounds.told("street 1 house 0 depth 5;cart 0 noise 9;");
    Bounds.tray(x, 0, 0, 0);
    Bounds.due("never", x.mean(0, 0) * 10 + x.mean(0, 1), 71);
    x = Bounds.told("street 1 house 0 depth 5;cart 10 noise 2;");
    Bounds.tray(x, 0, 0, 0);
    Bounds.due("always", x.mean(0, 0) * 10 + x.mean(0, 1), 11);
    x = Bounds.told("street 1 house 0 depth 5;cart 5 noise 0;");
    Bounds.tray(x, 0, 0, 0);
    Bounds.due("without noise", x.mean(0, 0) * 10 + x.mean(0, 1), 71);
    // four goers of 99 each, and 9 more
    x = Bounds.told("street 1 house 0 depth 5;goer loud 0;goer loud 0;goer loud 0;goer loud 0;noise:99;cart 10 noise 9;sleeps:noise-400;");
    Bounds.tray(x, 0, 15);
    Bounds.due("noise 405", x.mean(0, 0), 5);
    Bounds.due("without the cart", x.by(15), 0);
  }

  @Bounds.Holds(promise = 0, says = "CHANCE by a TRAY (1 to 6 sets that STEP, one HOUR after another from now on):")
  static void chanceOfOneTo6Sets() {
    // noise 5, 4, 3, 2, 1, 0 by the steps, each hour one less deep by 1 if a cart passes
    SleepAct x = Bounds.told("street 6 house 0 depth 9;goer loud 6;cart 10 noise 1;sleeps:noise;");
    int[] noise = {6, 5, 4, 3, 2, 1};
    for (int n = 1; n <= 6; n++) {
      long[] steps = new long[n];
      java.util.Arrays.fill(steps, 1);
      Bounds.tray(x, 0, steps);
      Bounds.due("depth behind " + n + " steps", x.mean(0, 0) * 10 + x.mean(0, 1), noise[n - 1] * 10 + 1);
      Bounds.due("it sleeps behind " + n + " steps", x.chance(0, 0) * 10 + x.chance(0, 1), 11);
    }
    x.hour(1);
    Bounds.tray(x, 0, 0, 1);
    Bounds.due("from now on", x.mean(0, 0), 5);
    x = Bounds.told("street 1 house 0 depth 1;cart 5 noise 1;");
    Bounds.tray(x, 0, 0);
    Bounds.due("from 1: 2, or AWAKE", x.chance(0, 0) * 10 + x.chance(0, 1), 12);
    Bounds.due("from 1: 2, or AWAKE", x.mean(0, 0) * 10 + x.mean(0, 1), 11);
    Bounds.tray(x, 0, 0, 0);
    Bounds.due("3, or 1, or AWAKE", x.mean(0, 0) * 10 + x.mean(0, 1), 11);
  }

  private static void refusedAsChance(boolean mean) {
    SleepAct x = Bounds.told("street 1 house 0 depth 5;goer loud 0;goer loud 0 at 1;");
    for (int t : NO_TRAYS) Bounds.due("no tray", part(x, t, 0, mean), -2);
    for (int what : new int[] {-1, 2, Integer.MIN_VALUE, Integer.MAX_VALUE}) Bounds.due("what, ahead of MISSING", part(x, 0, what, mean), -2);
    for (int t = 0; t < 4; t++) Bounds.due("MISSING", part(x, t, 1, mean), -6);
    Bounds.tray(x, 2);
    Bounds.due("no number", part(x, 2, 0, mean), -4);
    Bounds.due("no number, what is told first", part(x, 2, 2, mean), -2);
    Bounds.tray(x, 2, new long[6]);
    Bounds.due("six", part(x, 2, 1, mean), 1);
    Bounds.tray(x, 2, new long[7]);
    Bounds.due("seven", part(x, 2, 0, mean), -4);
    Bounds.tray(x, 2, 4, 0, 0, 0, 0, 0, 0);
    Bounds.due("seven, no set among them", part(x, 2, 0, mean), -4);
    for (long v : new long[] {-1, 4, 16, 1L << 32, (1L << 32) + 1, Long.MIN_VALUE, Long.MAX_VALUE}) {
      Bounds.tray(x, 2, v);
      Bounds.due("no set " + v, part(x, 2, 0, mean), -3);
      Bounds.tray(x, 2, 0, 0, 0, 0, 0, v);
      Bounds.due("the sixth is no set " + v, part(x, 2, 0, mean), -3);
      Bounds.tray(x, 2, 2, v);
      Bounds.due("no set behind one that is PAST", part(x, 2, 0, mean), -3);
    }
    Bounds.tray(x, 2, 2);
    Bounds.due("PAST", part(x, 2, 0, mean), -5);
    Bounds.tray(x, 2, 1, 0, 0, 0, 0, 1);
    Bounds.due("PAST by then", part(x, 2, 0, mean), -5);
    Bounds.tray(x, 2, 1, 0, 0, 0, 0, 0);
    Bounds.due("PAST, but it STEPS no more", part(x, 2, 1, mean), 1);
    x = Bounds.told("street 2 house 0 depth 5;goer loud 0;goer loud 0;sleeps:0;");
    Bounds.tray(x, 0, 1, 1, 2, 2);
    Bounds.due("it wakes, above", part(x, 0, 0, mean), 0);
    Bounds.due("it wakes, below", part(x, 0, 1, mean), 1);
    Bounds.tray(x, 0, 1, 1, 1);
    Bounds.due("PAST, as if it never woke", part(x, 0, 0, mean), -5);
    x.hour(1);
    Bounds.tray(x, 0, 1);
    Bounds.due("AWAKE now, above", part(x, 0, 0, mean), 0);
    Bounds.due("AWAKE now, below", part(x, 0, 1, mean), 1);
    Bounds.tray(x, 0, 1, 1);
    Bounds.due("AWAKE now, PAST by then", part(x, 0, 0, mean), -5);
    Bounds.due("nothing was done", x.count(6) * 10 + x.goer(0, 0), 11);
  }

  private static int part(SleepAct x, int tray, int what, boolean mean) {
    return mean ? x.mean(tray, what) : x.chance(tray, what);
  }

  @Bounds.Holds(promise = 33, says = "CHANCE that it SLEEPS behind all, what 0: the number above, 1: below, in lowest terms.")
  static void chanceInLowestTerms() {
    int[] above = {9, 81, 729, 6561, 59049, 531441};
    int[] below = {10, 100, 1000, 10000, 100000, 1000000};
    SleepAct x = Bounds.told("street 1 house 0 depth 9;cart 1 noise 9;");
    for (int n = 1; n <= 6; n++) {
      Bounds.tray(x, 0, new long[n]);
      Bounds.due("above, " + n, x.chance(0, 0), above[n - 1]);
      Bounds.due("below, " + n, x.chance(0, 1), below[n - 1]);
    }
    x = Bounds.told("street 1 house 0 depth 9;cart 8 noise 9;");
    Bounds.tray(x, 0, 0, 0, 0);
    Bounds.due("8 in 1000", x.chance(0, 0) * 1000 + x.chance(0, 1), 1125);
    x = Bounds.told("street 1 house 0 depth 9;cart 8 noise 1;");
    Bounds.tray(x, 0, 0, 0, 0);
    Bounds.due("surely", x.chance(0, 0) * 1000 + x.chance(0, 1), 1001);
    x = Bounds.told("street 1 house 0 depth 9;cart 10 noise 9;");
    Bounds.tray(x, 0, 0, 0, 0);
    Bounds.due("never", x.chance(0, 0) * 1000 + x.chance(0, 1), 1);
  }

  @Bounds.Holds(promise = 33, says = "-2: the TRAY, what; -6; -4: not 1 to 6 numbers; -3: one is no set of GOERS; -5: one would STEP that is PAST (as if it never woke).")
  static void chanceRefused() {
    refusedAsChance(false);
  }

  @Bounds.Holds(promise = 34, says = "Its DEPTH on the mean then, what 0: above, 1: below, in lowest terms.")
  static void meanInLowestTerms() {
    // 9 with 9 in 10 each hour, awake else
    SleepAct x = Bounds.told("street 1 house 0 depth 9;cart 1 noise 9;");
    Bounds.tray(x, 0, 0, 0, 0, 0, 0, 0);
    Bounds.due("above", x.mean(0, 0), 9 * 531441);
    Bounds.due("below", x.mean(0, 1), 1000000);
    // 6 with 4 in 10, 3 with 6 in 10
    x = Bounds.told("street 1 house 0 depth 5;cart 6 noise 2;");
    Bounds.tray(x, 0, 0);
    Bounds.due("21 in 5", x.mean(0, 0) * 100 + x.mean(0, 1), 2105);
    x = Bounds.told("street 1 house 0 depth 5;cart 5 noise 2;");
    Bounds.tray(x, 0, 0);
    Bounds.due("9 in 2", x.mean(0, 0) * 100 + x.mean(0, 1), 902);
    x = Bounds.told("street 1 house 0 depth 5;cart 5 noise 9;sleeps:if noise=9 then 2 else 4 end;");
    Bounds.tray(x, 0, 0);
    Bounds.due("3 in 1", x.mean(0, 0) * 100 + x.mean(0, 1), 301);
  }

  @Bounds.Holds(promise = 34, says = "As chance().")
  static void meanRefused() {
    refusedAsChance(true);
  }

  // ---- trays

  @Bounds.Holds(promise = 0, says = "TRAYS 0 to 3 are MISSING at first, or have 0 to 40 numbers of 8 bits (sort 0), 16 (1), 32 (2), 64 (3).")
  static void fourTrays() {
    SleepAct x = new SleepAct();
    for (int t = 0; t < 4; t++) {
      Bounds.due("MISSING", x.write(t, 0, 1), -6);
      Bounds.due("MISSING", x.lists(t, 0), -6);
      Bounds.due("numbers of none", x.numbers(t, t, 0), 0);
      Bounds.due("not MISSING, but it has none", x.write(t, 0, 1), -7);
      Bounds.due("perform of none", x.perform(t), 0);
      Bounds.due("numbers of 40", x.numbers(t, t, 40), 0);
      for (int i = 0; i < 40; i++) Bounds.due("write", x.write(t, i, i + t), i + t);
      Bounds.due("no 41st", x.write(t, 40, 1), -7);
      for (int other = t + 1; other < 4; other++) Bounds.due("the others are MISSING", x.perform(other), -6);
    }
    // a street leaves them, and so does a restored image
    x.image(0);
    Bounds.read(x, Bounds.HEAD);
    Bounds.due("another street", x.write(0, 39, 5), 5);
    x.restore(0);
    Bounds.due("an image", x.write(3, 39, 5), 5);
  }

  @Bounds.Holds(promise = 35, says = "A TRAY has n numbers of a sort, all 0 (in place of another one): 0.")
  static void numbersAll0() {
    SleepAct x = Bounds.told("street 1 house 0 depth 5;goer loud 0;");
    for (int sort = 0; sort < 4; sort++) {
      Bounds.due("numbers", x.numbers(1, sort, 40), 0);
      for (int i = 0; i < 40; i++) x.write(1, i, -1);
      Bounds.due("-1 can't be", x.judge(1, 0), 0);
      Bounds.due("numbers again", x.numbers(1, 3 - sort, 40), 0);
      Bounds.due("all 0", x.judge(1, 0), -1);
      Bounds.due("all 0", x.judge(1, 2) * 10 + x.judge(1, 3), 90);
      x.write(1, 39, -1);
      Bounds.due("numbers of fewer", x.numbers(1, sort, 1), 0);
      Bounds.due("no second", x.write(1, 1, 0), -7);
      Bounds.due("numbers of more", x.numbers(1, sort, 40), 0);
      Bounds.due("all 0", x.judge(1, 0), -1);
    }
  }

  @Bounds.Holds(promise = 35, says = "-2: no such TRAY, sort; -3, and the TRAY stays: n is below 0 or above 40.")
  static void numbersRefused() {
    SleepAct x = new SleepAct();
    for (int t : NO_TRAYS) Bounds.due("numbers(" + t + ", 0, 1)", x.numbers(t, 0, 1), -2);
    for (int s : new int[] {-1, 4, Integer.MIN_VALUE, Integer.MAX_VALUE}) {
      Bounds.due("numbers(0, " + s + ", 1)", x.numbers(0, s, 1), -2);
      Bounds.due("the sort is told ahead of n", x.numbers(0, s, 41), -2);
    }
    Bounds.due("the tray is told ahead of n", x.numbers(4, 0, -1), -2);
    for (int n : new int[] {-1, 41, Integer.MIN_VALUE, Integer.MAX_VALUE}) {
      Bounds.due("numbers(0, 0, " + n + ")", x.numbers(0, 0, n), -3);
      Bounds.due("MISSING still", x.perform(0), -6);
    }
    x.numbers(0, 1, 3);
    x.write(0, 2, 400);
    for (int n : new int[] {-1, 41}) Bounds.due("numbers(0, 0, " + n + ")", x.numbers(0, 0, n), -3);
    Bounds.due("refused", x.numbers(0, 4, 1), -2);
    Bounds.due("the tray stays", x.judge(0, 0), 2);
    Bounds.due("its sort stays", x.write(0, 0, 300), 300);
    Bounds.due("its length stays", x.write(0, 3, 0), -7);
  }

  @Bounds.Holds(promise = 36, says = "Number i of a TRAY is v, cut to its sort: as it is there.")
  static void writeCuts() {
    SleepAct x = new SleepAct();
    for (int sort = 0; sort < 4; sort++) {
      x.numbers(sort, sort, 2);
      int bits = 8 << sort;
      long most = Long.MAX_VALUE >>> 64 - bits;
      long least = -most - 1;
      for (long v : new long[] {0, 1, -1, most, least}) Bounds.due(v + " in " + bits + " bits", x.write(sort, 1, v), v);
      if (sort < 3) {
        Bounds.due("one more than the most", x.write(sort, 1, most + 1), least);
        Bounds.due("one less than the least", x.write(sort, 1, least - 1), most);
        Bounds.due("all bits", x.write(sort, 1, (1L << bits) - 1), -1);
        Bounds.due("one bit more", x.write(sort, 1, 1L << bits), 0);
        Bounds.due("the greatest", x.write(sort, 0, Long.MAX_VALUE), -1);
        Bounds.due("the least", x.write(sort, 0, Long.MIN_VALUE), 0);
      }
    }
    // what is there counts, not what was told
    x.numbers(0, 0, 2);
    x.write(0, 0, 256);
    x.write(0, 1, 512 + 100);
    Bounds.due("an HOUR, a DRAUGHT", x.judge(0, 0), -1);
  }

  @Bounds.Holds(promise = 36, says = "-2: no such TRAY; -6; -7.")
  static void writeRefused() {
    SleepAct x = new SleepAct();
    for (int t : NO_TRAYS) {
      Bounds.due("write(" + t + ", 0, 1)", x.write(t, 0, 1), -2);
      Bounds.due("no tray, no number", x.write(t, -1, 1), -2);
    }
    Bounds.due("MISSING", x.write(2, 0, 1), -6);
    Bounds.due("MISSING, no number", x.write(2, -1, 1), -6);
    Bounds.due("MISSING, no number", x.write(2, 40, 1), -6);
    x.numbers(2, 3, 5);
    for (int i : new int[] {-1, 5, 39, 40, Integer.MIN_VALUE, Integer.MAX_VALUE}) Bounds.due("write(2, " + i + ", 1)", x.write(2, i, 1), -7);
    Bounds.due("the last that is", x.write(2, 4, 400), 400);
    Bounds.due("the first that is", x.write(2, 0, 109), 109);
    Bounds.due("none else was written", x.judge(2, 0), 4);
  }

  @Bounds.Holds(promise = 37, says = "Who STEPS in COMING BY of a set comes into a TRAY, as bits, as far as it has places: how many.")
  static void listsAsFarAsThereArePlaces() {
    SleepAct x = Bounds.told("street 3 house 0 depth 5;goer loud 0;goer loud 0 at 1;sleeps:depth;");
    int[] way = {1, 3, 3};
    for (int n = 0; n <= 5; n++) {
      Bounds.tray(x, 0, 400, 400, 400, 400, 400);
      x.numbers(0, 3, n);
      for (int i = 0; i < n; i++) x.write(0, i, 400);
      Bounds.due("lists with " + n + " places", x.lists(0, 3), Math.min(n, 3));
      Bounds.due("what is behind stays", x.judge(0, 0), n > 3 ? 3 : -1);
      int first = 0;
      int second = 1;
      for (int i = 0; i < Math.min(n, 3); i++) {
        first += way[i] & 1;
        second += way[i] >> 1;
      }
      Bounds.due("who is PAST then", x.judge(0, 3), (first == 3 ? 1 : 0) + (second == 3 ? 2 : 0));
    }
    x.numbers(1, 0, 2);
    x.write(1, 0, 16);
    Bounds.due("nobody: none comes", x.lists(1, 0), 0);
    Bounds.due("the tray stays", x.judge(1, 0), 0);
    // more hours than places can be: nobody steps in the first 40
    x = Bounds.told("street 6 house 0 depth 9;" + "goer loud 0;".repeat(4) + "sleeps:if steps=0 then depth+1 else if steps=1 then depth-8 else 0 end end;");
    x.numbers(0, 0, 40);
    Bounds.due("forty of 208", x.lists(0, 15), 40);
    Bounds.due("they can be", x.judge(0, 0), -1);
    x.perform(0);
    Bounds.due("five steps, 35 hours of rest", x.goer(0, 0), 5);
  }

  @Bounds.Holds(promise = 37, says = "-2: the TRAY; -6; -3: the set; -5: there is none.")
  static void listsRefused() {
    SleepAct x = Bounds.told("street 1 house 0 depth 9;goer loud 9;goer loud 0;noise:loud;");
    for (int t : NO_TRAYS) {
      Bounds.due("lists(" + t + ", 0)", x.lists(t, 0), -2);
      Bounds.due("no tray, no set", x.lists(t, 4), -2);
    }
    Bounds.due("MISSING", x.lists(0, 0), -6);
    Bounds.due("MISSING, no set", x.lists(0, 4), -6);
    Bounds.tray(x, 0, 400, 400);
    for (int set : new int[] {-1, 4, 16, Integer.MIN_VALUE, Integer.MAX_VALUE}) Bounds.due("lists(0, " + set + ")", x.lists(0, set), -3);
    Bounds.due("there is none", x.lists(0, 1), -5);
    Bounds.due("there is none", x.lists(0, 3), -5);
    Bounds.due("the tray stays", x.judge(0, 0), 0);
    Bounds.due("there is one", x.lists(0, 2), 1);
    Bounds.due("it is there", x.judge(0, 0), 1);
    x = Bounds.awake();
    x.numbers(0, 0, 1);
    Bounds.due("AWAKE", x.lists(0, 0), -5);
    Bounds.due("AWAKE, no set", x.lists(0, 4), -3);
    Bounds.due("AWAKE, MISSING", x.lists(1, 0), -6);
  }

  // ---- images

  @Bounds.Holds(promise = 0, says = "IMAGES 0 to 1: THE STREET and what a call could bring back by UNDOING; nothing can be UNDONE behind (none at first).")
  static void imagesOfAll() {
    SleepAct x = Bounds.told("street 2 house 0 depth 6;goer loud 3;people 4;draught 1;sleeps:depth-noise+draught;cart 10 noise 9;");
    Bounds.due("none at first", x.restore(0), -5);
    Bounds.due("none at first", x.restore(1), -5);
    x.hour(1);
    x.hint(0, 1, 0);
    x.hint(2, 3, 1);
    x.draught(2);
    x.image(1);
    Bounds.due("none at 0 still", x.restore(0), -5);
    Bounds.due("image leaves what can be undone", x.count(7), 4);
    long[] then = Bounds.stand(x);
    Bounds.read(x, "street 5 house 4 depth 1;goer loud 9;goer loud 9;sleeps:9;");
    x.image(0);
    x.hour(3);
    Bounds.feed(x, "A");
    Bounds.due("restore(1)", x.restore(1), 0);
    then[7] = 0;
    then[8] = 20;
    Bounds.same("restore(1)", Bounds.stand(x), then);
    Bounds.due("nothing can be undone", x.undo(1), -3);
    Bounds.due("by its laws: 5, noise 1, draught 2", x.by(1), 6);
    Bounds.due("restore(0)", x.restore(0), 0);
    Bounds.due("cells", x.count(0), 5);
    Bounds.due("depth", x.count(3), 1);
    Bounds.due("goers", x.count(1), 2);
    Bounds.due("lines", x.count(9), 4);
    Bounds.due("where they are", x.goer(1, 0), 0);
  }

  @Bounds.Holds(promise = 38, says = "An IMAGE is made: 0. -2.")
  static void imageRefused() {
    SleepAct x = new SleepAct();
    for (int i : new int[] {-1, 2, Integer.MIN_VALUE, Integer.MAX_VALUE}) Bounds.due("image(" + i + ")", x.image(i), -2);
    for (int i = 0; i < 2; i++) Bounds.due("none was made", x.restore(i), -5);
    Bounds.due("image(1)", x.image(1), 0);
    Bounds.due("none was made", x.restore(0), -5);
    x.hours(2);
    Bounds.due("image(0)", x.image(0), 0);
    x.hours(2);
    Bounds.due("image(0) again", x.image(0), 0);
    x.hours(2);
    x.restore(0);
    Bounds.due("the later one instead", x.count(6), 4);
    x.restore(1);
    Bounds.due("without a text", x.count(6) * 10 + x.count(0), 1);
  }

  @Bounds.Holds(promise = 39, says = "All that is in an IMAGE is as it was: 0. -2; -5: none was made.")
  static void restoreRefused() {
    SleepAct x = Bounds.told("street 1 house 0 depth 5;goer loud 0;");
    x.image(0);
    x.hour(1);
    long[] before = Bounds.stand(x);
    for (int i : new int[] {-1, 2, Integer.MIN_VALUE, Integer.MAX_VALUE}) Bounds.due("restore(" + i + ")", x.restore(i), -2);
    Bounds.due("none was made", x.restore(1), -5);
    Bounds.same("restore", Bounds.stand(x), before);
    for (int i = 0; i < 3; i++) {
      Bounds.due("restore(0)", x.restore(0), 0);
      Bounds.due("as it was", x.count(6) * 100 + x.count(3) * 10 + x.goer(0, 0), 50);
      Bounds.due("calls", x.count(7), 0);
      x.hour(1);
      x.hour(0);
    }
    // an image of a street where it is awake
    x = Bounds.awake();
    x.image(1);
    Bounds.read(x, Bounds.HEAD);
    x.restore(1);
    Bounds.due("AWAKE again", x.hour(0), -13);
  }

  // ---- counts, refused calls

  @Bounds.Holds(promise = 40, says = "0 CELLS, 1 GOERS, 2 PEOPLE, 3 the DEPTH, 4 who is PAST, as bits, 5 DRAUGHT, 6 HOURS, 7 calls that can be UNDONE, 8 bytes on THE TAPE, 9 LINES. NONE for others.")
  static void countOfOthers() {
    SleepAct x = Bounds.told("street 6 house 5 depth 8;goer loud 1 at 6;goer loud 2;goer loud 3 at 6;people 7;draught 4;noise:0;");
    x.feed(0, 0, 0, 0, 0);
    x.hour(2);
    x.draught(3);
    int[] want = {6, 3, 7, 9, 5, 3, 1, 2, 20, 7};
    for (int i = 0; i < 10; i++) Bounds.due("count(" + i + ")", x.count(i), want[i]);
    for (int what : new int[] {-1, 10, 11, Integer.MIN_VALUE, Integer.MAX_VALUE}) Bounds.due("count(" + what + ")", x.count(what), -1);
    x = Bounds.told("street 1 house 0 depth 1;" + "goer loud 9 at 1;".repeat(4) + "people 8;sleeps:0;");
    x.hour(0);
    Bounds.due("all are PAST", x.count(4), 15);
    Bounds.due("AWAKE", x.count(3), 0);
    Bounds.due("eight", x.count(2), 8);
  }

  @Bounds.Holds(promise = 0, says = "The constants: `NONE = -1`: There is none.")
  static void noneIsBelow0() {
    Bounds.due("NONE", SleepAct.NONE, -1);
    Bounds.due("none of these", new SleepAct().count(10), SleepAct.NONE);
  }

  @Bounds.Holds(promise = 0, says = "Refused calls answer by a code and change nothing:")
  static void refusedCallsChangeNothing() {
    SleepAct x = Bounds.told("street 2 house 0 depth 9;goer loud 0 at 2;goer loud 1;people 3;draught 2;not 0 1;");
    x.hour(2);
    x.hours(2);
    x.hint(1, 2, 0);
    Bounds.tray(x, 0, 2, 0);
    x.image(0);
    Bounds.feed(x, "street");
    long[] before = Bounds.stand(x);
    long[] answers = {x.street(21), x.goer(2, 0), x.by(4), x.by(1), x.hour(4), x.hour(1), x.hours(0), x.hint(0, 3, 1), x.hint(0, 0, 1), x.draught(10),
      x.undo(0), x.undo(4), x.judge(4, 0), x.judge(1, 0), x.perform(1), x.perform(4), x.night(3, 41), x.soonest(4), x.way(4, 0), x.way(0, -1),
      x.rows(4, 1), x.rows(0, 9), x.most(2), x.first(3), x.surely(3), x.odds(0, 0, 0), x.hints(2), x.draughts(1), x.attempt(1), x.daring(4),
      x.dares(4), x.chance(1, 0), x.mean(0, 2), x.numbers(4, 0, 1), x.numbers(0, 4, 1), x.numbers(0, 0, 41), x.write(4, 0, 1), x.write(1, 0, 1),
      x.write(0, 2, 1), x.lists(4, 0), x.lists(1, 0), x.lists(0, 4), x.image(2), x.restore(2), x.restore(1)};
    for (int i = 0; i < answers.length; i++) Bounds.due("refused call " + i, answers[i] < -1 ? 1 : 0, 1);
    Bounds.same("some refused call", Bounds.stand(x), before);
    Bounds.due("undo(3)", x.undo(3), 0);
    Bounds.due("restore(0)", x.restore(0), 0);
    Bounds.due("hours", x.count(6), 3);
  }

  @Bounds.Holds(promise = 0, says = "-2 there is none such; -3 a number can't be; -4 too many; -5 it can't be now; -6 a TRAY is MISSING; -7 it has no such number; -11 to -13 why not (1 to 3); -30 less the FAULT: a text.")
  static void eachCode() {
    SleepAct x = Bounds.told("street 1 house 0 depth 1;goer loud 0 at 1;people 2;sleeps:0;");
    Bounds.due("-2", x.image(2), -2);
    Bounds.due("-3", x.undo(1), -3);
    Bounds.due("-5", x.restore(0), -5);
    Bounds.due("-6", x.perform(0), -6);
    x.numbers(0, 0, 11);
    Bounds.due("-4", x.draughts(0), -4);
    Bounds.due("-7", x.write(0, 11, 0), -7);
    Bounds.due("-11", x.hour(2), -11);
    Bounds.due("-12", x.hour(1), -12);
    x.hour(0);
    Bounds.due("-13", x.hour(0), -13);
    Bounds.due("-31", Bounds.read(x, "A"), -31);
    Bounds.due("-32", Bounds.read(x, "a"), -32);
    Bounds.due("-33", Bounds.read(x, "street 9"), -33);
    Bounds.due("-34", Bounds.read(x, Bounds.HEAD + "noise:((((((("), -34);
  }

  @Bounds.Holds(promise = -1, says = "An object is used for at most 512 calls after it has been made; what later calls answer is free.")
  static void till512Calls() {
    SleepAct x = new SleepAct();
    for (int i = 0; i < 510; i++) x.hours(99);
    Bounds.due("call 511", x.count(6), 510 * 99);
    Bounds.due("call 512", x.undo(10), 0);
    x = new SleepAct();
    int calls = 0;
    for (int told = 0; calls < 506; told = (told + 1) % 10) {
      // three of feed, one of street, two of by, one of draught
      Bounds.due("street", Bounds.read(x, "street 1 house 0 depth 9;sleeps:" + told + "+draught;"), 2);
      Bounds.due("by the law of this street", x.by(0), told);
      x.draught(1);
      Bounds.due("by the law of this street", x.by(0), Math.min(9, told + 1));
      calls += 7;
    }
    x = Bounds.told("street 6 house 0 depth 9;" + "goer loud 0;".repeat(4));
    for (int i = 0; i < 252; i++) {
      x.image(i % 2);
      x.restore(i % 2);
    }
    Bounds.due("a late call", x.soonest(15), 6);
  }

  @Bounds.Holds(promise = 0, says = "(Of several that which the call tells first; all these ahead of NONE.)")
  static void whatTheCallTellsFirst() {
    SleepAct x = Bounds.told("street 1 house 0 depth 1;goer loud 0;goer loud 0 at 1;people 2;not 0 1;sleeps:0;");
    x.hour(0);
    Bounds.due("goer: -2 ahead of NONE", x.goer(1, 4), -2);
    Bounds.due("hour: -11 ahead of -12, -13", x.hour(6), -11);
    Bounds.due("hour: -12 ahead of -13", x.hour(3), -12);
    Bounds.due("by: -3 ahead of -5", x.by(6), -3);
    Bounds.due("soonest: -3 ahead of NONE", x.soonest(4), -3);
    Bounds.due("way: -3 ahead of NONE", x.way(0, -1), -3);
    Bounds.due("most: -2 ahead of NONE", x.most(2), -2);
    Bounds.due("atOnce: -5 ahead of NONE", x.atOnce(), -5);
    Bounds.due("first: -2 ahead of NONE", x.first(2), -2);
    Bounds.due("surely: -2 ahead of NONE", x.surely(2), -2);
    Bounds.due("odds: -2 ahead of NONE", x.odds(0, 1, 2), -2);
    Bounds.due("judge: -2 ahead of -6", x.judge(0, 4), -2);
    Bounds.due("chance: -2 ahead of -6", x.chance(0, 2), -2);
    Bounds.due("lists: -6 ahead of -3", x.lists(0, 4), -6);
    Bounds.due("write: -6 ahead of -7", x.write(0, -1, 1), -6);
    Bounds.tray(x, 0, 10);
    Bounds.due("attempt: -3 ahead of -5", x.attempt(0), -3);
    Bounds.tray(x, 0, 5);
    Bounds.due("attempt: -5 ahead of NONE", x.attempt(0), -5);
    Bounds.due("lists: -3 ahead of -5", x.lists(0, 4), -3);
    Bounds.tray(x, 0, 2, 4);
    Bounds.due("mean: -3 ahead of -5", x.mean(0, 0), -3);
    Bounds.due("daring: -3 ahead of -5", x.daring(4), -3);
    Bounds.due("dares: -5 ahead of NONE", x.dares(2), -5);
    Bounds.due("hours: -11 ahead of -13", x.hours(100), -11);
    Bounds.due("numbers: -2 ahead of -3", x.numbers(4, 0, 41), -2);
  }
}
