import java.io.IOException;
import java.lang.annotation.ElementType;
import java.lang.annotation.Retention;
import java.lang.annotation.RetentionPolicy;
import java.lang.annotation.Target;
import java.lang.reflect.Method;
import java.nio.charset.StandardCharsets;
import java.nio.file.Files;
import java.nio.file.Path;
import java.util.ArrayList;
import java.util.Arrays;
import java.util.Comparator;
import java.util.List;

/** What the tests of boundary sentences share: each quotes its sentence, and the quote must stand in the document. */
final class Bounds {
  /** The sentence that a test would find broken: of a promise, of the section "Terms" (0), of "What it is" (-1). */
  @Retention(RetentionPolicy.RUNTIME)
  @Target(ElementType.METHOD)
  @interface Holds {
    int promise();

    String says();
  }

  /** The first line of a street: 25 bytes. */
  static final String HEAD = "street 3 house 1 depth 4;";
  private static int wrong = 0;
  private static int looked = 0;
  private static int tests = 0;
  private static String test = "";
  private static Holds sentence;

  private Bounds() {
  }

  static void due(String call, long got, long want) {
    looked++;
    if (got != want) tell(call + " answered " + got + ", due is " + want);
  }

  static void tell(String what) {
    wrong++;
    if (wrong > 40) return;
    System.out.println(test + (sentence == null ? "" : " (promise " + sentence.promise() + ": " + sentence.says() + ")") + ": " + what);
  }

  // ---- streets and trays

  /** Feeds a text, the last piece filled up with bytes that no token begins with. */
  static void feed(SleepAct x, String text) {
    for (int i = 0; i < text.length(); i += 20) {
      int[] w = new int[5];
      for (int k = 0; k < 20; k++) w[k / 4] = w[k / 4] << 8 | (i + k < text.length() ? text.charAt(i + k) & 255 : '~');
      x.feed(w[0], w[1], w[2], w[3], w[4]);
    }
  }

  static int read(SleepAct x, String text) {
    feed(x, text);
    return x.street(text.length());
  }

  static SleepAct told(String text) {
    SleepAct x = new SleepAct();
    int lines = read(x, text);
    if (lines < 1) tell("not read: '" + text + "', " + lines + " at " + x.fault(1));
    return x;
  }

  /** It is awake, a goer is in a cell, another one past. */
  static SleepAct awake() {
    SleepAct x = told("street 1 house 0 depth 1;goer loud 1;goer loud 1 at 1;people 2;sleeps: 0;");
    due("hour(0) that wakes it", x.hour(0), 0);
    return x;
  }

  static void tray(SleepAct x, int tray, long... v) {
    due("numbers", x.numbers(tray, 3, v.length), 0);
    for (int i = 0; i < v.length; i++) due("write", x.write(tray, i, v[i]), v[i]);
  }

  // ---- texts

  static void good(String text) {
    SleepAct x = new SleepAct();
    int lines = read(x, text);
    if (lines < 1 || lines != x.count(9)) tell("'" + text + "' answered " + lines + ", it is a street");
    due("fault(0) of '" + text + "'", x.fault(0), 0);
    due("fault(1) of '" + text + "'", x.fault(1), -1);
  }

  static void faulty(String text, int kind, int place) {
    SleepAct x = new SleepAct();
    due("street of '" + text + "'", read(x, text), -30 - kind);
    due("fault(0) of '" + text + "'", x.fault(0), kind);
    due("fault(1) of '" + text + "'", x.fault(1), place);
  }

  /** A number between two pieces of a text may be from the least to the most, and no other one. */
  static void within(String ahead, int least, int most, String behind) {
    for (int n : new int[] {least - 1, least, most, most + 1, 999}) {
      if (n < 0 || n > 999) continue;
      if (n >= least && n <= most) good(ahead + n + behind);
      else faulty(ahead + n + behind, 3, ahead.length());
    }
  }

  // ---- what a refused call may not change

  static long[] stand(SleepAct x) {
    List<Long> all = new ArrayList<>();
    for (int i = 0; i < 10; i++) all.add((long) x.count(i));
    for (int g = 0; g < 4; g++) for (int what = 0; what < 4; what++) all.add((long) x.goer(g, what));
    for (int set = 0; set < 16; set++) all.add((long) x.by(set));
    for (int p = 0; p < 8; p++) all.add((long) x.first(p));
    all.add((long) x.ways());
    all.add((long) x.hints(0));
    all.add((long) x.hints(1));
    all.add((long) x.fault(0));
    all.add((long) x.fault(1));
    for (int t = 0; t < 4; t++) {
      for (int what = 0; what < 4; what++) all.add((long) x.judge(t, what));
      all.add((long) x.draughts(t));
      all.add((long) x.chance(t, 0));
      all.add((long) x.mean(t, 0));
    }
    long[] stand = new long[all.size()];
    for (int i = 0; i < stand.length; i++) stand[i] = all.get(i);
    return stand;
  }

  static void same(String call, long[] then, long[] before) {
    looked++;
    if (!Arrays.equals(then, before)) tell(call + " changed " + Arrays.toString(before) + " to " + Arrays.toString(then));
  }

  // ---- running

  static String document() throws IOException {
    return flat(Files.readString(Path.of("../shared/DOC.md"), StandardCharsets.UTF_8));
  }

  static String flat(String text) {
    return text.replaceAll("\\s+", " ");
  }

  /** The text of a promise, of the terms (0), or of what it is (-1). */
  static String section(String document, int promise) {
    String from = promise < 0 ? "## What it is " : promise == 0 ? "## Terms " : "## Promise " + promise + ": ";
    int start = document.indexOf(from);
    int end = document.indexOf(" ## ", start + 1);
    return start < 0 ? "" : document.substring(start, end < 0 ? document.length() : end);
  }

  /** Runs each test of these classes, looks whether its quote stands, whether it looked at anything. */
  static List<Holds> run(Class<?>... classes) throws Exception {
    String document = document();
    List<Holds> all = new ArrayList<>();
    for (Class<?> c : classes) {
      Method[] methods = c.getDeclaredMethods();
      Arrays.sort(methods, Comparator.comparing(Method::getName));
      for (Method m : methods) {
        sentence = m.getAnnotation(Holds.class);
        if (sentence == null) continue;
        test = c.getSimpleName() + "." + m.getName();
        all.add(sentence);
        if (!section(document, sentence.promise()).contains(flat(sentence.says()))) tell("the quote doesn't stand there");
        int before = looked;
        m.setAccessible(true);
        m.invoke(null);
        tests++;
        if (looked == before) tell("it looked at nothing");
      }
    }
    sentence = null;
    test = "all";
    return all;
  }

  /** Tells each sentence of the promises and the terms of which no test quotes any part. */
  static void uncovered(List<Holds> held) throws IOException {
    String document = document();
    for (int promise = 0; promise <= 40; promise++) {
      String section = section(document, promise);
      boolean[] quoted = new boolean[section.length()];
      for (Holds h : held) {
        int at = h.promise() == promise ? section.indexOf(flat(h.says())) : -1;
        if (at >= 0) Arrays.fill(quoted, at, at + flat(h.says()).length(), true);
      }
      int start = 0;
      for (int i = 0; i < section.length(); i++) {
        boolean ends = i + 1 == section.length() || section.startsWith(". ", i);
        if (!ends) continue;
        // neither the titles of the terms nor where the calls stand is a sentence
        boolean any = section.startsWith("``` ====", start) || section.startsWith("Ahead of the calls", start);
        for (int k = start; k <= i; k++) any |= quoted[k];
        if (!any) tell("of promise " + promise + " no test quotes: " + section.substring(start, i + 1));
        start = i + 2;
      }
    }
  }

  static void end() {
    System.out.println(wrong == 0 ? tests + " sentences hold, " + looked + " answers are as due" : wrong + " answers are not as due");
    if (wrong != 0) System.exit(1);
  }
}
