import java.math.BigInteger;
import java.util.ArrayList;
import java.util.Arrays;
import java.util.HashMap;
import java.util.HashSet;
import java.util.List;
import java.util.Map;
import java.util.Random;
import java.util.Set;

/** Random streets and calls against a second model, written in other ways and without any care for speed. */
public final class AgainstPlainModel {
  private static int wrong = 0;
  private static long looked = 0;

  public static void main(String[] args) {
    int rounds = args.length > 0 ? Integer.parseInt(args[0]) : 400;
    long seed = args.length > 1 ? Long.parseLong(args[1]) : 1;
    for (int i = 0; i < rounds && wrong < 20; i++) new Round(seed * 1000003L + i).play();
    System.out.println(wrong == 0 ? looked + " answers are as due" : wrong + " answers are not as due");
    if (wrong != 0) System.exit(1);
  }

  /** A sum, or a truth that tells 1 or 0. */
  interface Node {
    long value(Map<String, Integer> words);
  }

  static long kept(BigInteger v) {
    BigInteger most = BigInteger.valueOf(1000000);
    return v.min(most).max(most.negate()).longValue();
  }

  static final class Round {
    final Random random;
    final long seed;
    final SleepAct x = new SleepAct();
    final StringBuilder calls = new StringBuilder();
    String text = "";
    int cells = 1, house = 0, goers = 0, people = 0, odds = 0, cartNoise = 0, lines = 0;
    int[] loud = new int[4], soft = new int[4];
    Node noiseLaw, sleepsLaw;
    Here here = new Here();
    List<Here> undo = new ArrayList<>();
    long[][] trays = new long[4][];
    int[] sorts = new int[4];
    Object[][] images = new Object[2][];

    /** All that deeds change. */
    static final class Here {
      List<Integer> at = new ArrayList<>();
      int depth = 9, draught = 0, hours = 0;
      Map<Integer, Integer> hints = new HashMap<>();

      Here copy() {
        Here h = new Here();
        h.at = new ArrayList<>(at);
        h.depth = depth;
        h.draught = draught;
        h.hours = hours;
        h.hints = new HashMap<>(hints);
        return h;
      }

      List<Integer> key() {
        List<Integer> k = new ArrayList<>(at);
        k.add(depth);
        return k;
      }
    }

    Round(long seed) {
      this.seed = seed;
      random = new Random(seed);
    }

    int below(int n) {
      return random.nextInt(n);
    }

    void due(String call, long got, long want) {
      looked++;
      calls.append(call).append(" -> ").append(want).append('\n');
      if (got != want) {
        wrong++;
        System.out.println("seed " + seed + ", '" + text + "': " + call + " answered " + got + ", due is " + want);
        System.out.println(calls);
      }
    }

    // ---- a text with its meaning

    int nest;
    boolean inNoise;

    Node sum(StringBuilder b, int size) {
      Node left = term(b, size);
      while (below(3) == 0) {
        boolean plus = below(2) == 0;
        b.append(plus ? "+" : " - ");
        Node l = left;
        Node r = term(b, size - 1);
        left = plus ? w -> kept(BigInteger.valueOf(l.value(w)).add(BigInteger.valueOf(r.value(w))))
            : w -> kept(BigInteger.valueOf(l.value(w)).subtract(BigInteger.valueOf(r.value(w))));
      }
      return left;
    }

    Node term(StringBuilder b, int size) {
      Node left = atom(b, size);
      while (below(5) == 0) {
        b.append(" *\n");
        Node l = left;
        Node r = atom(b, size - 1);
        left = w -> kept(BigInteger.valueOf(l.value(w)).multiply(BigInteger.valueOf(r.value(w))));
      }
      return left;
    }

    Node atom(StringBuilder b, int size) {
      int kind = below(size > 0 && nest < 6 ? 8 : 5);
      if (kind == 0) {
        int n = below(4) == 0 ? below(1000) : below(6);
        b.append(' ').append(n);
        return w -> n;
      }
      if (kind < 5) {
        String[] all = inNoise ? new String[] {"goer", "loud", "soft", "far", "draught", "depth", "loud", "depth"}
            : new String[] {"noise", "steps", "past", "draught", "depth", "noise", "depth", "depth"};
        String word = all[below(8)];
        b.append(' ').append(word).append(' ');
        return w -> w.get(word);
      }
      nest++;
      Node made;
      if (kind == 5) {
        b.append('(');
        made = sum(b, size - 1);
        b.append(')');
      } else {
        b.append(" if ");
        Node t = truth(b, size - 1);
        b.append(" then ");
        Node y = sum(b, size - 1);
        b.append(" else ");
        Node n = sum(b, size - 1);
        b.append(" end ");
        made = w -> t.value(w) != 0 ? y.value(w) : n.value(w);
      }
      nest--;
      return made;
    }

    Node truth(StringBuilder b, int size) {
      Node left = both(b, size);
      while (below(4) == 0) {
        b.append(" or ");
        Node l = left;
        Node r = both(b, size - 1);
        left = w -> l.value(w) + r.value(w) > 0 ? 1 : 0;
      }
      return left;
    }

    Node both(StringBuilder b, int size) {
      Node left = unit(b, size);
      while (below(4) == 0) {
        b.append(" and ");
        Node l = left;
        Node r = unit(b, size - 1);
        left = w -> l.value(w) * r.value(w);
      }
      return left;
    }

    Node unit(StringBuilder b, int size) {
      int kind = nest < 6 ? below(6) : 5;
      Node made;
      if (kind == 0) {
        nest++;
        b.append(" not ");
        Node n = unit(b, size - 1);
        nest--;
        return w -> 1 - n.value(w);
      }
      if (kind == 1) {
        nest++;
        b.append('[');
        made = truth(b, size - 1);
        b.append(']');
        nest--;
        return made;
      }
      Node l = sum(b, size - 1);
      int c = below(3);
      b.append("=<>".charAt(c));
      Node r = sum(b, size - 1);
      return w -> Long.signum(Long.compare(l.value(w), r.value(w))) == (c == 0 ? 0 : c == 1 ? -1 : 1) ? 1 : 0;
    }

    Node law(StringBuilder b, boolean noise) {
      inNoise = noise;
      b.append(noise ? "noise" : "sleeps").append(below(2) == 0 ? ":" : " : ");
      if (below(2) == 0) {
        // a law by which it sleeps on for some time
        String[] plain = noise ? new String[] {"loud - far - soft", "loud * 2 - draught", "if depth > 5 then loud else far end"}
            : new String[] {"if noise = 0 then depth + 1 else depth - noise end", "depth + draught - noise * steps", "depth - steps + past"};
        Node[] meant = noise
            ? new Node[] {w -> w.get("loud") - w.get("far") - w.get("soft"), w -> w.get("loud") * 2 - w.get("draught"),
                w -> w.get("depth") > 5 ? w.get("loud") : w.get("far")}
            : new Node[] {w -> w.get("noise") == 0 ? w.get("depth") + 1 : w.get("depth") - w.get("noise"),
                w -> w.get("depth") + w.get("draught") - w.get("noise") * w.get("steps"), w -> w.get("depth") - w.get("steps") + w.get("past")};
        int k = below(3);
        b.append(plain[k]);
        return meant[k];
      }
      return sum(b, 3);
    }

    void newStreet() {
      StringBuilder b = new StringBuilder();
      cells = 1 + below(below(4) == 0 ? 6 : 3);
      house = below(cells);
      Here h = new Here();
      h.depth = 1 + below(9);
      b.append("street ").append(cells).append("\nhouse ").append(house).append(" depth ").append(h.depth).append(" ;");
      lines = 1;
      goers = 0;
      people = 0;
      odds = 0;
      cartNoise = 0;
      noiseLaw = null;
      sleepsLaw = null;
      boolean peopleTold = false;
      int wanted = below(10);
      int mostGoers = below(5);
      while (lines <= wanted) {
        int kind = below(10);
        int before = b.length();
        if (kind < 3 && goers < mostGoers) {
          loud[goers] = below(3) == 0 ? below(10) : below(4);
          soft[goers] = 0;
          int at = 0;
          b.append("goer loud ").append(loud[goers]);
          while (below(3) == 0) {
            if (below(2) == 0) {
              at = below(cells + 1);
              b.append(" at ").append(at);
            } else {
              soft[goers] = below(10);
              b.append(" soft ").append(soft[goers]);
            }
          }
          h.at.add(at);
          goers++;
        } else if (kind == 3 && !peopleTold) {
          peopleTold = true;
          people = below(9);
          b.append("people ").append(people);
        } else if (kind == 4 && people > 1) {
          int p = below(people);
          int q = (p + 1 + below(people - 1)) % people;
          int is = below(4) == 0 ? 1 : 0;
          b.append(is == 1 ? "bound " : "not ").append(p).append(' ').append(q);
          h.hints.put(Math.min(p, q) * 10 + Math.max(p, q), is);
        } else if (kind == 5) {
          odds = below(11);
          cartNoise = below(10);
          b.append("cart ").append(odds).append(" noise ").append(cartNoise);
        } else if (kind == 6) {
          h.draught = below(10);
          b.append("draught ").append(h.draught);
        } else if (kind == 7) {
          noiseLaw = law(b, true);
        } else if (kind == 8) {
          sleepsLaw = law(b, false);
        }
        if (b.length() > before) {
          b.append(';');
          lines++;
        }
        wanted = b.length() == before && below(20) == 0 ? wanted - 1 : wanted;
      }
      text = b.toString();
      if (text.length() > 900) {
        newStreet();
        return;
      }
      here = h;
      undo.clear();
      calls.append(text).append('\n');
      for (int i = 0; i < text.length(); i += 20) {
        int[] v = new int[5];
        for (int k = 0; k < 20; k++) v[k / 4] = v[k / 4] << 8 | (i + k < text.length() ? text.charAt(i + k) : ' ');
        x.feed(v[0], v[1], v[2], v[3], v[4]);
      }
      due("street(" + text.length() + ")", x.street(text.length()), lines);
      due("fault(0)", x.fault(0), 0);
    }

    // ---- hours

    int noise(int g, int to, int depth, int draught) {
      int far = 0;
      for (int c = Math.min(to, house); c < Math.max(to, house); c++) far++;
      if (noiseLaw == null) return loud[g] > far ? loud[g] - far : 0;
      Map<String, Integer> w = new HashMap<>();
      w.put("goer", g);
      w.put("loud", loud[g]);
      w.put("soft", soft[g]);
      w.put("far", far);
      w.put("draught", draught);
      w.put("depth", depth);
      long v = noiseLaw.value(w);
      return (int) (v < 0 ? 0 : v > 99 ? 99 : v);
    }

    /** What is there behind an hour, or null if it can't be. */
    Here after(Here h, int set, int extra, boolean evenAwake) {
      if (h.depth == 0 && !evenAwake) return null;
      Here then = h.copy();
      int all = extra, steps = 0, past = 0;
      for (int g = 0; g < goers; g++) {
        if ((set & 1 << g) != 0) {
          if (h.at.get(g) == cells) return null;
          then.at.set(g, h.at.get(g) + 1);
          all += noise(g, then.at.get(g), h.depth, h.draught);
          steps++;
        }
        if (then.at.get(g) == cells) past++;
      }
      if (set < 0 || set >= 1 << goers) return null;
      long v = all == 0 ? h.depth + 1 : h.depth - all;
      if (sleepsLaw != null) {
        Map<String, Integer> w = new HashMap<>();
        w.put("noise", all);
        w.put("steps", steps);
        w.put("past", past);
        w.put("draught", h.draught);
        w.put("depth", h.depth);
        v = sleepsLaw.value(w);
      }
      then.depth = (int) (v < 0 ? 0 : v > 9 ? 9 : v);
      then.hours++;
      return then;
    }

    int past(Here h) {
      int set = 0;
      for (int g = 0; g < goers; g++) if (h.at.get(g) == cells) set |= 1 << g;
      return set;
    }

    int why(Here h, int set) {
      if (set < 0 || set >= 1 << goers) return 1;
      if ((past(h) & set) != 0) return 2;
      return h.depth == 0 ? 3 : 0;
    }

    /** Does a deed in place; why not. */
    int deed(Here h, long v) {
      if (v >= 0 && v < 16) {
        int no = why(h, (int) v);
        if (no == 0) {
          Here then = after(h, (int) v, 0, false);
          h.at = then.at;
          h.depth = then.depth;
          h.hours = then.hours;
        }
        return no;
      }
      if (v >= 100 && v < 110) {
        h.draught = (int) (v - 100);
        return 0;
      }
      for (int base = 200; base <= 300; base += 100) {
        if (v >= base && v < base + 100) {
          int p = (int) (v - base) / 10;
          int q = (int) v % 10;
          if (p >= people || q >= people || p == q) return 1;
          h.hints.put(Math.min(p, q) * 10 + Math.max(p, q), base == 200 ? 1 : 0);
          return 0;
        }
      }
      return 1;
    }

    void remember(Here before) {
      undo.add(before);
      if (undo.size() > 10) undo.remove(0);
    }

    // ---- searches

    Map<List<Integer>, Here> reachable() {
      Map<List<Integer>, Here> all = new HashMap<>();
      List<Here> open = new ArrayList<>();
      open.add(here);
      all.put(here.key(), here);
      while (!open.isEmpty()) {
        Here h = open.remove(open.size() - 1);
        for (int set = 15; set >= 0; set--) {
          Here then = after(h, set, 0, false);
          if (then != null && all.putIfAbsent(then.key(), then) == null) open.add(then);
        }
      }
      return all;
    }

    /** The first of the shortest rows by how far each state is from the goal; null: there is none. */
    List<Integer> row(int set, Map<List<Integer>, Here> all) {
      Map<List<Integer>, Integer> far = new HashMap<>();
      for (Here h : all.values()) if (h.depth > 0 && (past(h) & set) == set) far.put(h.key(), 0);
      Map<List<Integer>, List<List<Integer>>> ahead = new HashMap<>();
      for (Here h : all.values()) {
        for (int s = 0; s < 16; s++) {
          Here then = after(h, s, 0, false);
          if (then != null) ahead.computeIfAbsent(then.key(), k -> new ArrayList<>()).add(h.key());
        }
      }
      List<List<Integer>> rim = new ArrayList<>(far.keySet());
      for (int d = 1; !rim.isEmpty(); d++) {
        List<List<Integer>> next = new ArrayList<>();
        for (List<Integer> k : rim) {
          for (List<Integer> from : ahead.getOrDefault(k, List.of())) {
            if (far.putIfAbsent(from, d) == null) next.add(from);
          }
        }
        rim = next;
      }
      if (!far.containsKey(here.key())) return null;
      List<Integer> row = new ArrayList<>();
      Here h = here;
      while (far.get(h.key()) > 0) {
        for (int s = 0; s < 16; s++) {
          Here then = after(h, s, 0, false);
          if (then != null && far.containsKey(then.key()) && far.get(then.key()) == far.get(h.key()) - 1) {
            row.add(s);
            h = then;
            break;
          }
        }
      }
      return row;
    }

    long rows(Here h, int set, int n, Map<List<Integer>, Long> known) {
      if (n == 0) return h.depth > 0 && (past(h) & set) == set ? 1 : 0;
      List<Integer> key = h.key();
      key.add(n);
      Long k = known.get(key);
      if (k != null) return k;
      long sum = 0;
      for (int s = 0; s < 16; s++) {
        Here then = after(h, s, 0, false);
        if (then != null) sum += rows(then, set, n - 1, known);
      }
      known.put(key, sum);
      return sum;
    }

    // ---- what it says

    List<int[]> says() {
      List<int[]> all = new ArrayList<>();
      int[] to = new int[people];
      bindAll(0, to, all);
      all.sort((a, b) -> Arrays.compare(a, b));
      return all;
    }

    /** Each person has any partner, 99: left; kept only if it is right both ways and by all hints. */
    void bindAll(int p, int[] to, List<int[]> all) {
      if (p == people) {
        int left = 0;
        for (int i = 0; i < people; i++) left += to[i] == 99 ? 1 : 0;
        if (left != people % 2) return;
        for (Map.Entry<Integer, Integer> e : here.hints.entrySet()) {
          int a = e.getKey() / 10, b = e.getKey() % 10;
          if ((to[a] == b) != (e.getValue() == 1)) return;
        }
        all.add(to.clone());
        return;
      }
      for (int i = 0; i < p; i++) {
        if (to[i] == p) {
          to[p] = i;
          bindAll(p + 1, to, all);
          return;
        }
      }
      for (int q = p + 1; q <= people; q++) {
        boolean taken = false;
        for (int i = 0; i < p; i++) taken |= q < people && (to[i] == q);
        if (taken) continue;
        to[p] = q == people ? 99 : q;
        bindAll(p + 1, to, all);
      }
    }

    // ---- daring

    int dare(Here h, int on, int other, Map<List<Integer>, Integer> known) {
      if (past(h) == (1 << goers) - 1) return 0;
      List<Integer> key = h.key();
      key.add(on);
      Integer k = known.get(key);
      if (k != null) return k;
      int best = -9;
      for (int g = 0; g < goers; g++) {
        if ((on & ~past(h) & 1 << g) != 0) best = Math.max(best, dared(h, 1 << g, on, other, known));
      }
      if (best == -9) best = dared(h, 0, on, other, known);
      known.put(key, best);
      return best;
    }

    int dared(Here h, int set, int on, int other, Map<List<Integer>, Integer> known) {
      Here then = after(h, set, 0, false);
      return then.depth == 0 ? -1 : -dare(then, other, on, known);
    }

    // ---- chances: all carts that can be

    BigInteger[] chances(long[] sets) {
      BigInteger sleeps = BigInteger.ZERO, deep = BigInteger.ZERO;
      for (int carts = 0; carts < 1 << sets.length; carts++) {
        BigInteger weight = BigInteger.ONE;
        Here h = here;
        int depth = here.depth;
        for (int i = 0; i < sets.length; i++) {
          boolean cart = (carts >> i & 1) == 1;
          weight = weight.multiply(BigInteger.valueOf(cart ? odds : 10 - odds));
          h = h.copy();
          h.depth = depth;
          Here then = after(h, (int) sets[i], cart ? cartNoise : 0, true);
          if (then == null) return null;
          depth = depth == 0 ? 0 : then.depth;
          h = then;
        }
        if (depth > 0) sleeps = sleeps.add(weight);
        deep = deep.add(weight.multiply(BigInteger.valueOf(depth)));
      }
      return new BigInteger[] {sleeps, deep, BigInteger.TEN.pow(sets.length)};
    }

    // ---- play

    void play() {
      if (below(20) > 0) newStreet();
      int n = 10 + below(60);
      for (int i = 0; i < n && wrong < 20; i++) {
        if (below(60) == 0) newStreet();
        oneCall();
        if (below(6) == 0) looks();
      }
    }

    int anySet() {
      return below(12) == 0 ? below(18) - 1 : below(1 << goers);
    }

    void oneCall() {
      switch (below(12)) {
        case 0: case 1: case 2: case 3: {
          int set = below(3) == 0 ? 0 : anySet();
          Here before = here.copy();
          int no = why(here, set);
          if (no == 0) {
            deed(here, set);
            remember(before);
          }
          due("hour(" + set + ")", x.hour(set), no == 0 ? here.depth : -10 - no);
          break;
        }
        case 4: {
          int k = below(10) == 0 ? below(120) - 10 : 1 + below(3);
          Here before = here.copy();
          int no = k < 1 || k > 99 ? 1 : here.depth == 0 ? 3 : 0;
          if (no == 0) {
            for (int i = 0; i < k && here.depth > 0; i++) deed(here, 0);
            remember(before);
          }
          due("hours(" + k + ")", x.hours(k), no == 0 ? here.depth : -10 - no);
          break;
        }
        case 5: {
          int p = below(9), q = below(9), is = below(12) == 0 ? 2 : below(5) == 0 ? 1 : 0;
          Here before = here.copy();
          int no = is > 1 ? 1 : deed(here, (is == 1 ? 200 : 300) + 10 * p + q);
          if (no == 0) remember(before);
          due("hint(" + p + "," + q + "," + is + ")", x.hint(p, q, is), no == 0 ? says().size() : -11);
          break;
        }
        case 6: {
          int d = below(11);
          int was = here.draught;
          Here before = here.copy();
          if (d < 10) {
            here.draught = d;
            remember(before);
          }
          due("draught(" + d + ")", x.draught(d), d < 10 ? was : -11);
          break;
        }
        case 7: {
          int k = below(3) == 0 ? below(13) - 1 : 1;
          if (k < 1 || k > 10 || k > undo.size()) {
            due("undo(" + k + ")", x.undo(k), -3);
          } else {
            for (int i = 0; i < k; i++) here = undo.remove(undo.size() - 1);
            due("undo(" + k + ")", x.undo(k), undo.size());
          }
          break;
        }
        case 8: {
          int seed2 = random.nextInt(), times = below(15) == 0 ? 41 : 1 + below(8);
          if (times > 40) {
            due("night", x.night(seed2, times), -3);
            break;
          }
          int[] z = {seed2};
          int could = 0;
          Here before = here.copy();
          for (int i = 0; i < times; i++) {
            int kind = draw(z) % 6;
            long v = 0;
            if (kind == 2 || kind == 3) v = 1L << draw(z) % 4;
            if (kind == 4) v = 100 + draw(z) % 10;
            if (kind == 5) {
              v = 300 + draw(z) % 8 * 10;
              v += draw(z) % 8;
            }
            if (deed(here, v) == 0) could++;
          }
          if (could > 0) remember(before);
          due("night(" + seed2 + "," + times + ")", x.night(seed2, times), could);
          break;
        }
        case 9: deeds(); break;
        case 10: images(); break;
        default: trayQuestions(); break;
      }
    }

    static int draw(int[] z) {
      z[0] = (int) (1103515245L * z[0] + 12345L);
      return z[0] >>> 16;
    }

    void images() {
      int i = below(2);
      if (below(3) > 0) {
        images[i] = new Object[] {text, cells, house, goers, people, odds, cartNoise, lines, loud.clone(), soft.clone(), noiseLaw, sleepsLaw, here.copy()};
        due("image(" + i + ")", x.image(i), 0);
      } else if (images[i] == null) {
        due("restore(" + i + ")", x.restore(i), -5);
      } else {
        Object[] m = images[i];
        text = (String) m[0];
        cells = (Integer) m[1];
        house = (Integer) m[2];
        goers = (Integer) m[3];
        people = (Integer) m[4];
        odds = (Integer) m[5];
        cartNoise = (Integer) m[6];
        lines = (Integer) m[7];
        loud = ((int[]) m[8]).clone();
        soft = ((int[]) m[9]).clone();
        noiseLaw = (Node) m[10];
        sleepsLaw = (Node) m[11];
        here = ((Here) m[12]).copy();
        undo.clear();
        due("restore(" + i + ")", x.restore(i), 0);
      }
    }

    void lay(int t, int sort, long[] v) {
      due("numbers(" + t + "," + sort + "," + v.length + ")", x.numbers(t, sort, v.length), 0);
      trays[t] = new long[v.length];
      sorts[t] = sort;
      for (int i = 0; i < v.length; i++) {
        int bits = 8 << sort;
        trays[t][i] = v[i] << 64 - bits >> 64 - bits;
        due("write(" + t + "," + i + "," + v[i] + ")", x.write(t, i, v[i]), trays[t][i]);
      }
    }

    void deeds() {
      int t = below(4);
      long[] v = new long[below(7)];
      for (int i = 0; i < v.length; i++) {
        int kind = below(10);
        v[i] = kind < 5 ? anySet() : kind == 5 ? 100 + below(10) : kind < 9 ? (below(4) == 0 ? 200 : 300) + below(6) * 10 + below(6) : below(500) - 20;
      }
      lay(t, below(4), v);
      Here trial = here.copy();
      int place = -1, no = 0;
      for (int i = 0; i < trays[t].length && place < 0; i++) {
        no = deed(trial, trays[t][i]);
        if (no != 0) place = i;
      }
      due("judge(" + t + ",0)", x.judge(t, 0), place);
      due("judge(" + t + ",1)", x.judge(t, 1), no);
      due("judge(" + t + ",2)", x.judge(t, 2), trial.depth);
      due("judge(" + t + ",3)", x.judge(t, 3), past(trial));
      if (below(2) == 0) {
        int done = place < 0 ? trays[t].length : place;
        due("perform(" + t + ")", x.perform(t), done);
        if (done > 0) {
          remember(here);
          here = trial;
        }
      }
    }

    void trayQuestions() {
      int t = below(4);
      // depths as some draught would bring them, or any
      int d = below(10);
      long[] v = new long[1 + below(4)];
      Here h = here.copy();
      h.draught = d;
      for (int i = 0; i < v.length; i++) {
        if (h.depth > 0) h = after(h, 0, 0, false);
        v[i] = below(15) == 0 ? below(12) - 1 : h.depth;
      }
      lay(t, below(4), v);
      boolean bad = false;
      for (long n : v) bad |= n < 0 || n > 9;
      int fits = 0;
      for (int k = 0; k < 10; k++) {
        Here g = here.copy();
        g.draught = k;
        boolean ok = true;
        for (long n : v) {
          if (g.depth > 0) g = after(g, 0, 0, false);
          ok &= g.depth == n;
        }
        if (ok) fits |= 1 << k;
      }
      due("draughts(" + t + ")", x.draughts(t), bad ? -3 : fits);
      due("attempt(" + t + ")", x.attempt(t), bad ? -3 : here.depth == 0 ? -5 : fits == 0 ? -1 : attempt(fits));
      long[] sets = new long[1 + below(6)];
      for (int i = 0; i < sets.length; i++) sets[i] = below(2) == 0 ? 0 : anySet();
      lay(t, 1 + below(3), sets);
      boolean none = false;
      for (long n : sets) none |= n < 0 || n >= 1 << goers;
      BigInteger[] c = none ? null : chances(sets);
      for (int what = 0; what < 2; what++) {
        long chance = none ? -3 : c == null ? -5 : c[what == 0 ? 0 : 2].divide(c[0].gcd(c[2])).longValue();
        long mean = none ? -3 : c == null ? -5 : c[what == 0 ? 1 : 2].divide(c[1].gcd(c[2])).longValue();
        due("chance(" + t + "," + what + ")", x.chance(t, what), chance);
        due("mean(" + t + "," + what + ")", x.mean(t, what), mean);
      }
    }

    int attempt(int fits) {
      int best = -1, least = 99;
      for (int set = 0; set < 1 << goers; set++) {
        if ((set & past(here)) != 0) continue;
        Map<Integer, Integer> times = new HashMap<>();
        for (int k = 0; k < 10; k++) {
          if ((fits >> k & 1) == 0) continue;
          Here h = here.copy();
          h.draught = k;
          times.merge(after(h, set, 0, false).depth, 1, Integer::sum);
        }
        int most = 0;
        for (int n : times.values()) most = Math.max(most, n);
        if (most < least) {
          least = most;
          best = set;
        }
      }
      return best;
    }

    void looks() {
      int[] counts = {cells, goers, people, here.depth, past(here), here.draught, here.hours, undo.size(), 0, lines};
      for (int i = 0; i < 10; i++) due("count(" + i + ")", x.count(i), counts[i]);
      for (int g = 0; g < goers; g++) {
        due("goer(" + g + ",0)", x.goer(g, 0), here.at.get(g));
        due("goer(" + g + ",1)", x.goer(g, 1), loud[g]);
        due("goer(" + g + ",2)", x.goer(g, 2), soft[g]);
        due("goer(" + g + ",3)", x.goer(g, 3), here.at.get(g) == cells ? -1 : noise(g, here.at.get(g) + 1, here.depth, here.draught));
      }
      int best = -1;
      for (int set = 0; set < 16; set++) {
        int no = why(here, set);
        due("by(" + set + ")", x.by(set), no == 1 ? -3 : no > 0 ? -5 : after(here, set, 0, false).depth);
        if (no == 0 && after(here, set, 0, false).depth > 0 && (best < 0 || Integer.bitCount(set) > Integer.bitCount(best))) best = set;
      }
      due("atOnce()", x.atOnce(), here.depth == 0 ? -5 : best);
      lookAtRows();
      lookAtSays();
      Map<List<Integer>, Integer> known;
      for (int set = 0; set < 1 << goers; set++) {
        if (below(3) > 0) continue;
        int others = (1 << goers) - 1 & ~set;
        known = new HashMap<>();
        if (here.depth == 0) {
          due("daring(" + set + ")", x.daring(set), -5);
          due("dares(" + set + ")", x.dares(set), -5);
          continue;
        }
        int value = dare(here, set, others, known);
        int who = -1;
        for (int g = goers - 1; g >= 0; g--) {
          if ((set & ~past(here) & 1 << g) != 0 && dared(here, 1 << g, set, others, known) == value) who = g;
        }
        due("dares(" + set + ")", x.dares(set), who);
        due("daring(" + set + ")", x.daring(set), value);
      }
    }

    void lookAtRows() {
      long size = 1;
      for (int g = 0; g < goers; g++) size *= cells + 1 - here.at.get(g);
      if (size > 300) return;
      Map<List<Integer>, Here> all = reachable();
      int can = 0, most = 0, deepest = 0;
      for (Here h : all.values()) {
        if (h.depth == 0) continue;
        can |= past(h);
        deepest = Math.max(deepest, h.depth);
        int more = Integer.bitCount(past(h)) - Integer.bitCount(most);
        if (more > 0 || more == 0 && past(h) < most) most = past(h);
      }
      boolean late = below(2) == 0;
      if (!late) allRows(all, can, most, deepest);
      int t = below(4);
      for (int set = 0; set < 1 << goers; set++) {
        if (below(4) > 0) continue;
        List<Integer> row = row(set, all);
        due("soonest(" + set + ")", x.soonest(set), row == null ? -1 : row.size());
        for (int i = 0; row != null && i < row.size(); i++) due("way(" + set + "," + i + ")", x.way(set, i), row.get(i));
        due("way(" + set + ", behind)", x.way(set, row == null ? 0 : row.size()), -1);
        int n = below(5);
        due("rows(" + set + "," + n + ")", x.rows(set, n), rows(here, set, n, new HashMap<>()));
        lay(t, 0, new long[below(7)]);
        int places = trays[t].length;
        due("lists(" + t + "," + set + ")", x.lists(t, set), row == null ? -5 : Math.min(row.size(), places));
        if (row != null && places >= row.size()) {
          Here end = here.copy();
          for (int i = 0; i < places; i++) deed(end, i < row.size() ? row.get(i) : 0);
          due("judge(" + t + ",2)", x.judge(t, 2), end.depth);
          due("judge(" + t + ",3)", x.judge(t, 3), past(end));
        }
      }
      if (late) allRows(all, can, most, deepest);
    }

    void allRows(Map<List<Integer>, Here> all, int can, int most, int deepest) {
      due("can()", x.can(), can);
      due("most(0)", x.most(0), here.depth == 0 ? -1 : Integer.bitCount(most));
      due("most(1)", x.most(1), here.depth == 0 ? -1 : most);
      due("deepest()", x.deepest(), deepest);
      due("stands()", x.stands(), all.size());
    }

    void lookAtSays() {
      List<int[]> all = says();
      due("ways()", x.ways(), all.size());
      int yes = 0;
      for (int is : here.hints.values()) yes += is;
      due("hints(1)", x.hints(1), yes);
      due("hints(0)", x.hints(0), here.hints.size() - yes);
      int clause = -1, least = Integer.MAX_VALUE;
      for (int p = 0; p < people; p++) {
        Set<Integer> to = new HashSet<>();
        for (int[] w : all) to.add(w[p]);
        due("first(" + p + ")", x.first(p), all.isEmpty() || all.get(0)[p] == 99 ? -1 : all.get(0)[p]);
        due("surely(" + p + ")", x.surely(p), to.size() != 1 || to.contains(99) ? -1 : to.iterator().next());
        for (int q = 0; q < people; q++) {
          int k = 0;
          for (int[] w : all) k += w[p] == q ? 1 : 0;
          int divisor = BigInteger.valueOf(k).gcd(BigInteger.valueOf(all.size())).intValue();
          due("odds(" + p + "," + q + ",0)", x.odds(p, q, 0), p == q ? -2 : all.isEmpty() ? -1 : k / divisor);
          due("odds(" + p + "," + q + ",1)", x.odds(p, q, 1), p == q ? -2 : all.isEmpty() ? -1 : all.size() / divisor);
          int left = Math.max(k, all.size() - k);
          if (p < q && !all.isEmpty() && left < least) {
            least = left;
            clause = 10 * p + q;
          }
        }
      }
      due("clause()", x.clause(), clause);
    }
  }
}
