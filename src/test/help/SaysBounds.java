/** Boundary sentences about what the act says: promises 23 to 28 and their terms. */
final class SaysBounds {
  private SaysBounds() {
  }

  private static SleepAct people(int n, String hints) {
    return Bounds.told("street 1 house 0 depth 5;people " + n + ";" + hints);
  }

  @Bounds.Holds(promise = 0, says = "ways to bind all PEOPLE two and two (of an odd number one is left), by all HINTS;")
  static void oneIsLeftOfAnOddNumber() {
    int[] ways = {1, 1, 1, 3, 3, 15, 15, 105, 105};
    for (int n = 0; n <= 8; n++) Bounds.due("ways of " + n, people(n, "").ways(), ways[n]);
    SleepAct x = people(3, "not 0 1;not 0 2;");
    Bounds.due("0 is left", x.ways(), 1);
    x = people(3, "not 0 1;not 0 2;not 1 2;");
    Bounds.due("two would be left", x.ways(), 0);
    x = people(4, "not 0 1;not 0 2;not 0 3;");
    Bounds.due("of an even number none is left", x.ways(), 0);
    x = people(3, "bound 0 1;");
    Bounds.due("who is bound isn't left", x.ways(), 1);
    x = people(5, "bound 0 1;bound 2 3;bound 4 0;");
    Bounds.due("by all hints", x.ways(), 0);
    x = people(8, "bound 0 7;bound 1 6;bound 2 5;");
    Bounds.due("the last two for sure", x.ways(), 1);
    x = people(2, "not 0 1;");
    Bounds.due("none", x.ways(), 0);
  }

  @Bounds.Holds(promise = 0, says = "of like ones the first: PERSON by PERSON the one it is bound to, least first, left behind all.")
  static void leftBehindAll() {
    SleepAct x = people(3, "");
    int[] first = {1, 0, -1};
    for (int p = 0; p < 3; p++) Bounds.due("first(" + p + ")", x.first(p), first[p]);
    x = people(3, "not 0 1;");
    int[] second = {2, -1, 0};
    for (int p = 0; p < 3; p++) Bounds.due("first(" + p + "), 0 left comes behind", x.first(p), second[p]);
    x = people(3, "not 0 1;not 0 2;");
    int[] third = {-1, 2, 1};
    for (int p = 0; p < 3; p++) Bounds.due("first(" + p + "), 0 is left", x.first(p), third[p]);
    x = people(5, "not 0 1;not 1 3;");
    int[] fourth = {2, 4, 0, -1, 1};
    for (int p = 0; p < 5; p++) Bounds.due("first(" + p + ") of 5", x.first(p), fourth[p]);
    x = people(6, "not 0 1;not 0 2;");
    int[] fifth = {3, 2, 1, 0, 5, 4};
    for (int p = 0; p < 6; p++) Bounds.due("first(" + p + ") of 6", x.first(p), fifth[p]);
  }

  @Bounds.Holds(promise = 0, says = "ODDS: each of these ways is as likely.")
  static void eachWayAsLikely() {
    SleepAct x = people(5, "");
    // 15 ways; two are bound in 3 of them, someone is left in 3
    for (int q = 1; q < 5; q++) Bounds.due("odds(0, " + q + ")", x.odds(0, q, 0) * 100 + x.odds(0, q, 1), 105);
    x = people(8, "");
    Bounds.due("odds(6, 7)", x.odds(6, 7, 0) * 100 + x.odds(7, 6, 1), 107);
    x = people(4, "not 0 1;");
    Bounds.due("odds(2, 3), never with 0, 1", x.odds(2, 3, 0) * 100 + x.odds(2, 3, 1), 1);
  }

  @Bounds.Holds(promise = 23, says = "WHAT IT SAYS: how many ways (1 without PEOPLE).")
  static void waysWithoutPeople() {
    Bounds.due("without a text", new SleepAct().ways(), 1);
    Bounds.due("people 0", people(0, "").ways(), 1);
    Bounds.due("people not told", Bounds.told(Bounds.HEAD).ways(), 1);
    Bounds.due("people 1", people(1, "").ways(), 1);
    SleepAct x = people(8, "");
    Bounds.due("people 8", x.ways(), 105);
    Bounds.due("another street", Bounds.read(x, Bounds.HEAD), 1);
    Bounds.due("without people again", x.ways(), 1);
  }

  private static void noPeople(int n, SleepAct x) {
    for (int p : new int[] {-1, n, n + 1, 8, 9, Integer.MIN_VALUE, Integer.MAX_VALUE}) {
      Bounds.due("first(" + p + ") of " + n, x.first(p), -2);
      Bounds.due("surely(" + p + ") of " + n, x.surely(p), -2);
    }
  }

  @Bounds.Holds(promise = 24, says = "To whom a PERSON is bound in the first of these (NONE: it is left, there are none). -2.")
  static void firstRefused() {
    for (int n = 0; n <= 8; n++) {
      SleepAct x = people(n, "");
      noPeople(n, x);
      for (int p = 0; p < n; p++) Bounds.due("first(" + p + ")", x.first(p), n % 2 == 1 && p == n - 1 ? -1 : p ^ 1);
    }
    SleepAct x = people(4, "bound 0 1;bound 1 2;");
    for (int p = 0; p < 4; p++) Bounds.due("there are none, first(" + p + ")", x.first(p), -1);
    noPeople(4, x);
    x.undo(1);
    x.hint(1, 2, 0);
    Bounds.due("there are some", x.first(3), 2);
  }

  @Bounds.Holds(promise = 25, says = "To whom a PERSON is bound in all of these. NONE: it isn't sure, it is left in all, there are none; -2.")
  static void surelyRefused() {
    SleepAct x = people(2, "");
    Bounds.due("surely(0) of 2", x.surely(0), 1);
    Bounds.due("surely(1) of 2", x.surely(1), 0);
    x = people(1, "");
    Bounds.due("left in all", x.surely(0), -1);
    x = people(4, "");
    for (int p = 0; p < 4; p++) Bounds.due("it isn't sure", x.surely(p), -1);
    x = people(3, "not 0 1;");
    // 0 and 2, or 1 and 2, one left: never just one
    for (int p = 0; p < 3; p++) Bounds.due("it isn't sure, left or bound", x.surely(p), -1);
    x = people(3, "not 0 1;not 0 2;");
    Bounds.due("left in all", x.surely(0), -1);
    Bounds.due("surely(1)", x.surely(1), 2);
    x = people(3, "not 0 1;not 0 2;not 1 2;");
    for (int p = 0; p < 3; p++) Bounds.due("there are none", x.surely(p), -1);
    noPeople(3, x);
    x = people(8, "bound 3 7;");
    Bounds.due("surely(3)", x.surely(3), 7);
    Bounds.due("surely(7)", x.surely(7), 3);
    Bounds.due("surely(0)", x.surely(0), -1);
    x = people(2, "bound 0 1;");
    Bounds.due("surely(0), then not", x.surely(0) * 10 + x.hint(0, 1, 0) + x.surely(0), 9);
  }

  @Bounds.Holds(promise = 26, says = "ODDS that two PEOPLE are bound, what 0: the number above, 1: below, in lowest terms.")
  static void oddsInLowestTerms() {
    SleepAct x = people(8, "");
    Bounds.due("15 in 105", x.odds(0, 7, 0) * 100 + x.odds(0, 7, 1), 107);
    x = people(4, "bound 0 1;");
    Bounds.due("surely", x.odds(2, 3, 0) * 100 + x.odds(2, 3, 1), 101);
    Bounds.due("never", x.odds(0, 3, 0) * 100 + x.odds(0, 3, 1), 1);
    x = people(6, "not 0 1;");
    Bounds.due("3 in 12", x.odds(0, 5, 0) * 100 + x.odds(5, 0, 1), 104);
    Bounds.due("2 in 12", x.odds(2, 5, 0) * 100 + x.odds(2, 5, 1), 106);
    Bounds.due("0 in 12", x.odds(0, 1, 0) * 100 + x.odds(0, 1, 1), 1);
    x = people(6, "not 0 1;not 0 2;not 0 3;");
    Bounds.due("3 in 6", x.odds(0, 4, 0) * 100 + x.odds(0, 4, 1), 102);
    Bounds.due("2 in 6", x.odds(1, 2, 0) * 100 + x.odds(1, 2, 1), 103);
  }

  @Bounds.Holds(promise = 26, says = "NONE: there are no ways; -2: PEOPLE, both one, what.")
  static void oddsRefused() {
    for (String hints : new String[] {"", "not 0 1;not 0 2;not 1 2;"}) {
      SleepAct x = people(3, hints);
      int[][] no = {{-1, 0, 0}, {0, -1, 0}, {3, 0, 0}, {0, 3, 0}, {1, 1, 0}, {1, 1, 1}, {0, 1, 2}, {0, 1, -1}, {8, 0, 1}, {0, Integer.MAX_VALUE, 1},
        {Integer.MIN_VALUE, 0, 1}, {0, 1, Integer.MIN_VALUE}, {-1, -1, 0}};
      for (int[] n : no) Bounds.due("odds(" + n[0] + ", " + n[1] + ", " + n[2] + ")", x.odds(n[0], n[1], n[2]), -2);
    }
    SleepAct x = people(3, "not 0 1;not 0 2;not 1 2;");
    Bounds.due("no ways", x.odds(0, 1, 0), -1);
    Bounds.due("no ways", x.odds(2, 1, 1), -1);
    Bounds.due("one alone", people(1, "").odds(0, 0, 0), -2);
    Bounds.due("without people", people(0, "").odds(0, 1, 0), -2);
  }

  @Bounds.Holds(promise = 27, says = "the greater number of ways that are left by either answer is least, the first (10 times the lesser one, and the other one).")
  static void clauseOfLikeOnesTheFirst() {
    Bounds.due("all alike", people(8, "").clause(), 1);
    // 0 with 2 or 3: halves
    Bounds.due("0 and 2", people(4, "not 0 1;").clause(), 2);
    Bounds.due("two of like ones", people(2, "").clause(), 1);
    // ways: 0 with 1 (then 2 with 3, 4 or 5), or with 2, 3 (then just one left each)
    SleepAct x = people(6, "bound 0 5;");
    Bounds.due("1 and 2", x.clause(), 12);
    x.hint(1, 2, 0);
    Bounds.due("1 and 3", x.clause(), 13);
    x.hint(1, 3, 0);
    Bounds.due("one way: all alike, the first", x.clause(), 1);
    // more than half: 2 with 3 in 3 of 4 ways would leave 3, 0 with 4 in 2 of 4 leaves 2
    x = people(8, "bound 0 1;bound 2 3;not 6 7;");
    Bounds.due("4 and 6 in 1 of 2", x.clause(), 46);
    x = people(8, "bound 6 7;bound 4 5;not 2 3;");
    Bounds.due("0 and 2 in 1 of 2", x.clause(), 2);
  }

  @Bounds.Holds(promise = 27, says = "NONE: no two are there, there are no ways.")
  static void clauseOfNone() {
    Bounds.due("without a text", new SleepAct().clause(), -1);
    Bounds.due("nobody", people(0, "").clause(), -1);
    Bounds.due("one", people(1, "").clause(), -1);
    Bounds.due("two", people(2, "").clause(), 1);
    Bounds.due("no ways", people(2, "not 0 1;").clause(), -1);
    Bounds.due("no ways", people(8, "bound 0 1;bound 1 2;").clause(), -1);
  }

  @Bounds.Holds(promise = 28, says = "HINTS, as many as there are that two are bound (what 1), aren't (what 0). -2.")
  static void hintsRefused() {
    SleepAct x = people(8, "");
    Bounds.due("none", x.hints(0), 0);
    Bounds.due("none", x.hints(1), 0);
    for (int what : new int[] {-1, 2, Integer.MIN_VALUE, Integer.MAX_VALUE}) Bounds.due("hints(" + what + ")", x.hints(what), -2);
    int told = 0;
    for (int p = 0; p < 8; p++) {
      for (int q = p + 1; q < 8; q++) {
        x.hint(p, q, 0);
        told++;
        Bounds.due("hints(0)", x.hints(0), told);
      }
    }
    Bounds.due("all two and two", told, 28);
    for (int p = 0; p < 8; p++) for (int q = p + 1; q < 8; q++) x.hint(q, p, 1);
    Bounds.due("all instead", x.hints(1), 28);
    Bounds.due("none any more", x.hints(0), 0);
    Bounds.due("without a text", new SleepAct().hints(1), 0);
    Bounds.due("without a text", new SleepAct().hints(2), -2);
  }
}
