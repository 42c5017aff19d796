import java.util.Random;

/** Calls of all kinds with any arguments in any state: none may throw, and a refused one changes nothing. */
public final class NeverThrows {
  private static final String[] STREETS = {
    "street 6 house 2 depth 9;goer loud 1;goer loud 1;goer loud 2;goer loud 1 at 3;people 8;cart 5 noise 1;"
      + "noise: if far > 2 then 0 else loud end;sleeps: if noise = 0 then depth + 1 else depth - noise end;",
    "street 3 house 1 depth 5;goer loud 4;goer loud 0;people 7;noise: loud*draught-far;sleeps: depth-noise+steps*past;",
    "street 1 house 0 depth 1;sleeps: 0;people 1;",
    "street 2 house 0 depth 9;goer loud 9 at 2;goer loud 9 at 2;noise:999*999*999;sleeps:0-999*999*999;",
  };
  private static final long[] EDGES = {0, 1, -1, 2, 3, 4, 7, 8, 9, 10, 15, 16, 39, 40, 41, 99, 100, 109, 110, 200, 212, 301, 399, 400, 512,
    899, 900, 901, Integer.MAX_VALUE, Integer.MIN_VALUE, Integer.MAX_VALUE - 1, Long.MAX_VALUE, Long.MIN_VALUE, 1L << 32, -2, -30};

  public static void main(String[] args) {
    Random random = new Random(args.length > 0 ? Long.parseLong(args[0]) : 11);
    long calls = 0;
    int wrong = 0;
    for (int i = 0; i < 300; i++) {
      SleepAct x = new SleepAct();
      for (int k = 0; k < 512; k++) {
        if (random.nextInt(100) == 0) tell(x, STREETS[random.nextInt(STREETS.length)]);
        long[] before = stand(x);
        int which = random.nextInt(40);
        long got = call(x, which, random);
        calls++;
        boolean mayTakeTape = which == 1;
        if (got < -1 && which != 35) {
          long[] then = stand(x);
          for (int c = 0; c < then.length; c++) {
            if (then[c] != before[c] && !(mayTakeTape && c == 8)) {
              wrong++;
              System.out.println("call " + which + " answered " + got + " and changed " + c);
            }
          }
        }
      }
    }
    System.out.println(wrong == 0 ? calls + " calls threw nothing" : wrong + " refused calls changed something");
    if (wrong != 0) System.exit(1);
  }

  private static void tell(SleepAct x, String t) {
    x.street(x.count(8));
    for (int i = 0; i < t.length(); i += 20) {
      int[] v = new int[5];
      for (int k = 0; k < 20; k++) v[k / 4] = v[k / 4] << 8 | (i + k < t.length() ? t.charAt(i + k) : ' ');
      x.feed(v[0], v[1], v[2], v[3], v[4]);
    }
    x.street(t.length());
  }

  private static long[] stand(SleepAct x) {
    long[] s = new long[17];
    for (int i = 0; i < 10; i++) s[i] = x.count(i);
    for (int g = 0; g < 4; g++) s[10 + g] = x.goer(g, 0);
    s[14] = x.hints(0);
    s[15] = x.hints(1);
    s[16] = x.ways();
    return s;
  }

  private static long any(Random r) {
    return r.nextInt(3) > 0 ? r.nextInt(6) : r.nextInt(20) == 0 ? r.nextLong() : EDGES[r.nextInt(EDGES.length)];
  }

  private static int in(Random r) {
    return (int) any(r);
  }

  private static long call(SleepAct x, int which, Random r) {
    switch (which) {
      case 0: return x.feed(r.nextInt(), in(r), in(r), in(r), in(r));
      case 1: return x.street(in(r));
      case 2: return Math.max(-1, x.fault(in(r)));
      case 3: return x.goer(in(r), in(r));
      case 4: return x.by(in(r));
      case 5: return x.hour(in(r));
      case 6: return x.hours(in(r));
      case 7: return x.hint(in(r), in(r), in(r));
      case 8: return x.draught(in(r));
      case 9: return x.undo(in(r));
      case 10: return x.judge(in(r), in(r));
      case 11: return x.perform(in(r));
      case 12: return x.night(r.nextInt(), in(r));
      case 13: return x.soonest(in(r));
      case 14: return x.way(in(r), in(r));
      case 15: return x.rows(in(r), in(r));
      case 16: return x.can();
      case 17: return x.most(in(r));
      case 18: return x.deepest();
      case 19: return x.atOnce();
      case 20: return x.stands();
      case 21: return x.ways();
      case 22: return x.first(in(r));
      case 23: return x.surely(in(r));
      case 24: return x.odds(in(r), in(r), in(r));
      case 25: return x.clause();
      case 26: return x.hints(in(r));
      case 27: return x.draughts(in(r));
      case 28: return x.attempt(in(r));
      case 29: return x.daring(in(r));
      case 30: return x.dares(in(r));
      case 31: return x.chance(in(r), in(r));
      case 32: return x.mean(in(r), in(r));
      case 33: case 34: return x.numbers(in(r), in(r), in(r));
      case 35: return x.write(in(r), in(r), any(r));
      case 36: return x.lists(in(r), in(r));
      case 37: return x.image(in(r));
      case 38: return x.restore(in(r));
      default: return x.count(in(r));
    }
  }
}
