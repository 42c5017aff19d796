import java.lang.management.ManagementFactory;

/** What 512 of the dearest calls make on one object: far less than the room has. */
public final class SmallRoom {
  private static final String DEEP = "street 6 house 2 depth 9;goer loud 1;goer loud 1;goer loud 2;goer loud 1;people 8;cart 5 noise 1;"
      + "noise: if far > 2 then 0 else loud end;sleeps: if noise = 0 then depth + 1 else depth - noise end;";

  public static void main(String[] args) {
    com.sun.management.ThreadMXBean threads = (com.sun.management.ThreadMXBean) ManagementFactory.getThreadMXBean();
    long me = Thread.currentThread().getId();
    int wrong = 0;
    for (int which = 0; which < 12; which++) {
      long before = threads.getThreadAllocatedBytes(me);
      SleepAct x = new SleepAct();
      tell(x);
      x.numbers(0, 0, 6);
      for (int i = 0; i < 480; i++) call(x, which, i);
      long made = threads.getThreadAllocatedBytes(me) - before;
      // 7.3 million fields and elements are some 30 million bytes of ints; a tenth of that is far from it
      if (made > 3000000) {
        wrong++;
        System.out.println("calls of kind " + which + " made " + made + " bytes");
      }
    }
    System.out.println(wrong == 0 ? "the room stays wide" : "the room gets narrow");
    if (wrong != 0) System.exit(1);
  }

  private static void tell(SleepAct x) {
    for (int i = 0; i < DEEP.length(); i += 20) {
      int[] v = new int[5];
      for (int k = 0; k < 20; k++) v[k / 4] = v[k / 4] << 8 | (i + k < DEEP.length() ? DEEP.charAt(i + k) : ' ');
      x.feed(v[0], v[1], v[2], v[3], v[4]);
    }
    if (x.street(DEEP.length()) != 9) throw new IllegalStateException("not read");
  }

  private static void call(SleepAct x, int which, int i) {
    if (i % 40 == 0) x.hour(1 << i / 40 % 4);
    switch (which) {
      case 0: x.soonest(15); break;
      case 1: x.way(15, i % 9); break;
      case 2: x.rows(15, 8); break;
      case 3: x.stands(); break;
      case 4: x.hint(i % 8, (i + 1) % 8, 0); x.clause(); break;
      case 5: x.daring(i % 16); break;
      case 6: x.mean(0, 0); break;
      case 7: x.night(i, 40); break;
      case 8: x.attempt(0); break;
      case 9: x.lists(0, 15); break;
      case 10: x.image(i % 2); x.restore(i % 2); break;
      default: if (i % 12 == 0) tell(x);
    }
  }
}
