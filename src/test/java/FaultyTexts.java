import java.util.ArrayDeque;
import java.util.Deque;
import java.util.Random;
import java.util.regex.Matcher;
import java.util.regex.Pattern;

/** Texts with random mistakes, their first fault judged by a second reader that keeps a stack of what is due next. */
public final class FaultyTexts {
  private static final String[] GOOD = {
    "street 3 house 1 depth 4;goer loud 3 at 1 soft 2;goer loud 9;people 5;bound 0 1;not 2 4;cart 5 noise 2;draught 7;",
    "street 6 house 5 depth 9;noise : loud * 2 - far - soft;sleeps : if noise = 0 then depth + draught else depth - noise end;",
    "street 1 house 0 depth 1;noise:((((((goer))))));sleeps:if not [steps>1 or past<2 and not noise=3] then 1 else (2) end*3;",
    "street 2 house 0 depth 2;goer loud 1;goer loud 2;goer loud 3;goer loud 4;people 8;not 7 6;bound 7 5;not 5 7;",
    "street 4 house 2 depth 3;sleeps:if [[[[[depth=1]]]]] then if not not not not 1=2 then 3 else 4 end else 5 end;people 0;",
    "street 2 house 1 depth 5;noise:if if 1<2 then 3 else 4 end>if [5=6] then (7) else 8 end then 9 else 10 end;draught 0;",
  };
  private static final String[] PIECES = {
    "street", "house", "depth", "goer", "loud", "at", "soft", "people", "bound", "not", "cart", "noise", "draught", "sleeps",
    "if", "then", "else", "end", "far", "steps", "past", "or", "and", ";", ":", "+", "-", "*", "(", ")", "[", "]", "=", "<", ">",
    "0", "1", "2", "5", "8", "9", "10", "11", "999", "1000", "0001", "x", "A", "\t", ",", "\n", " ", "((", "not not", "[[", "\u00ff", "\u0000",
    "goer loud 1;", "people 2;", "bound 0 1;", "noise:1;", "sleeps:1;", "7 ", " 3"};

  private static int kind, place, number, start, end, nest, cells, people, last, goers;
  private static boolean peopleTold;
  private static String token, text;
  private static boolean noiseLaw;

  public static void main(String[] args) {
    int rounds = args.length > 0 ? Integer.parseInt(args[0]) : 60000;
    Random random = new Random(args.length > 1 ? Long.parseLong(args[1]) : 5);
    int[] kinds = new int[5];
    int wrong = 0;
    SleepAct x = new SleepAct();
    for (int i = 0; i < rounds && wrong < 20; i++) {
      if (i % 100 == 0) x = new SleepAct();
      String t = mistaken(random);
      judge(t);
      kinds[kind]++;
      int got = read(x, t);
      boolean lines = kind > 0 ? got == -30 - kind : got == x.count(9) && got > 0;
      if (!lines || x.fault(0) != kind || x.fault(1) != place) {
        wrong++;
        System.out.println("'" + t + "' answered " + got + ", " + x.fault(0) + " at " + x.fault(1) + ", due is " + kind + " at " + place);
      }
    }
    for (int k = 0; k < 5; k++) {
      if (kinds[k] < rounds / 500) {
        wrong++;
        System.out.println("too few texts of fault " + k + ": " + kinds[k]);
      }
    }
    System.out.println(wrong == 0 ? rounds + " texts are judged as due" : wrong + " texts are not judged as due");
    if (wrong != 0) System.exit(1);
  }

  private static int read(SleepAct x, String t) {
    for (int i = 0; i < t.length(); i += 20) {
      int[] v = new int[5];
      for (int k = 0; k < 20; k++) v[k / 4] = v[k / 4] << 8 | (i + k < t.length() ? t.charAt(i + k) & 255 : 'Z');
      x.feed(v[0], v[1], v[2], v[3], v[4]);
    }
    return x.street(t.length());
  }

  private static String mistaken(Random random) {
    String good = GOOD[random.nextInt(GOOD.length)];
    if (random.nextInt(3) == 0) good += GOOD[random.nextInt(GOOD.length)].substring(25);
    StringBuilder b = new StringBuilder(good);
    int edits = random.nextInt(4);
    for (int i = 0; i < edits; i++) {
      int at = random.nextInt(b.length() + 1);
      int to = random.nextInt(2) == 0 ? at : Math.min(b.length(), at + random.nextInt(6));
      String piece = random.nextInt(3) == 0 ? "" : PIECES[random.nextInt(PIECES.length)];
      b.replace(at, to, random.nextInt(2) == 0 ? piece : " " + piece + " ");
    }
    if (random.nextInt(8) == 0) b.setLength(random.nextInt(b.length() + 1));
    return b.toString();
  }

  // ---- the second reader

  private static final Pattern TOKEN = Pattern.compile("[a-z]+|[0-9]+|[;:+\\-*()\\[\\]=<>]");

  /** Looks at the next token; null: the end, or a fault. */
  private static void look() {
    while (end < text.length() && " \n".indexOf(text.charAt(end)) >= 0) end++;
    start = end;
    token = null;
    if (end == text.length()) return;
    Matcher m = TOKEN.matcher(text).region(end, text.length());
    if (!m.lookingAt() || m.group().matches("[0-9]{4,}")) {
      fail(1);
      return;
    }
    token = m.group();
    end = m.end();
  }

  private static void fail(int k) {
    if (kind == 0) {
      kind = k;
      place = start;
    }
  }

  private static void judge(String t) {
    text = t;
    kind = 0;
    place = -1;
    end = 0;
    nest = 0;
    goers = 0;
    people = 0;
    peopleTold = false;
    Deque<String> due = new ArrayDeque<>();
    push(due, "street #cells house #house depth #depth ; LINES");
    look();
    while (kind == 0 && !due.isEmpty()) {
      String next = due.pop();
      if (next.equals("LEAVE")) {
        nest--;
      } else if (next.equals("LINES")) {
        if (token != null) {
          due.push("LINES");
          due.push("LINE");
        }
      } else if (Character.isUpperCase(next.charAt(0))) {
        expand(due, next);
      } else if (next.startsWith("#")) {
        passNumber(next);
      } else if (next.equals(token)) {
        pass(next);
      } else {
        fail(2);
      }
    }
  }

  private static void push(Deque<String> due, String symbols) {
    String[] all = symbols.split(" ");
    for (int i = all.length - 1; i >= 0; i--) if (!all[i].isEmpty()) due.push(all[i]);
  }

  private static void pass(String t) {
    look();
  }

  private static void passNumber(String which) {
    if (token == null || !token.matches("[0-9]+")) {
      fail(2);
      return;
    }
    number = Integer.parseInt(token);
    int least = which.equals("#cells") || which.equals("#depth") ? 1 : 0;
    int most = 999;
    switch (which) {
      case "#cells": most = 6; break;
      case "#house": most = cells - 1; break;
      case "#depth": case "#nine": most = 9; break;
      case "#at": most = cells; break;
      case "#people": most = 8; break;
      case "#one": case "#other": most = people - 1; break;
      case "#ten": most = 10; break;
      default: break;
    }
    if (number < least || number > most || which.equals("#other") && number == last) {
      fail(3);
      return;
    }
    if (which.equals("#cells")) cells = number;
    if (which.equals("#people")) people = number;
    last = number;
    look();
  }

  private static boolean is(String... words) {
    for (String w : words) if (w.equals(token)) return true;
    return false;
  }

  private static void expand(Deque<String> due, String symbol) {
    switch (symbol) {
      case "LINE": line(due); break;
      case "FLAGS":
        if (is("at")) push(due, "at #at FLAGS");
        else if (is("soft")) push(due, "soft #nine FLAGS");
        break;
      case "SUM": push(due, "TERM MORETERMS"); break;
      case "MORETERMS": if (is("+", "-")) push(due, token + " TERM MORETERMS"); break;
      case "TERM": push(due, "ATOM MOREATOMS"); break;
      case "MOREATOMS": if (is("*")) push(due, "* ATOM MOREATOMS"); break;
      case "TRUTH": push(due, "BOTH MOREBOTHS"); break;
      case "MOREBOTHS": if (is("or")) push(due, "or BOTH MOREBOTHS"); break;
      case "BOTH": push(due, "UNIT MOREUNITS"); break;
      case "MOREUNITS": if (is("and")) push(due, "and UNIT MOREUNITS"); break;
      case "COMPARE":
        if (is("=", "<", ">")) push(due, token);
        else fail(2);
        break;
      case "UNIT":
        if (is("not")) within(due, "not UNIT LEAVE");
        else if (is("[")) within(due, "[ TRUTH ] LEAVE");
        else push(due, "SUM COMPARE SUM");
        break;
      case "ATOM":
        if (token != null && token.matches("[0-9]+")) push(due, "#any");
        else if (is("(")) within(due, "( SUM ) LEAVE");
        else if (is("if")) within(due, "if TRUTH then SUM else SUM end LEAVE");
        else if (is("draught", "depth")) push(due, token);
        else if (noiseLaw && is("goer", "loud", "soft", "far")) push(due, token);
        else if (!noiseLaw && is("noise", "steps", "past")) push(due, token);
        else fail(2);
        break;
      default: throw new IllegalStateException(symbol);
    }
  }

  private static void within(Deque<String> due, String symbols) {
    if (nest == 6) {
      fail(4);
    } else {
      nest++;
      push(due, symbols);
    }
  }

  private static void line(Deque<String> due) {
    switch (token) {
      case "goer":
        if (goers == 4) fail(4);
        goers++;
        push(due, "goer loud #nine FLAGS ;");
        break;
      case "people":
        if (peopleTold) fail(2);
        peopleTold = true;
        push(due, "people #people ;");
        break;
      case "bound": case "not": push(due, token + " #one #other ;"); break;
      case "cart": push(due, "cart #ten noise #nine ;"); break;
      case "draught": push(due, "draught #nine ;"); break;
      case "noise": case "sleeps":
        noiseLaw = token.equals("noise");
        push(due, token + " : SUM ;");
        break;
      default: fail(2);
    }
  }
}
