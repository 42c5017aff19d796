/** Boundary sentences about texts: the terms of a street, promises 1 to 4. */
final class TextBounds {
  private TextBounds() {
  }

  private static String blanks(int n) {
    return " ".repeat(n);
  }

  // ---- the text as a whole

  @Bounds.Holds(promise = 0, says = "THE STREET is a TEXT of at most 900 bytes")
  static void textOf900Bytes() {
    SleepAct x = new SleepAct();
    String text = "street 1 house 0 depth 1" + blanks(875) + ";";
    Bounds.due("length", text.length(), 900);
    Bounds.due("street of 900 bytes", Bounds.read(x, text), 1);
    Bounds.due("depth", x.count(3), 1);
    Bounds.faulty("street 1 house 0 depth 1" + blanks(876), 2, 900);
    Bounds.faulty("street 1 house 0 depth 1" + blanks(875) + "1", 2, 899);
    StringBuilder sum = new StringBuilder("street 1 house 0 depth 1;goer loud 1;noise:1");
    while (sum.length() < 899 - 8) sum.append("-1+1");
    while (sum.length() < 899) sum.append(' ');
    x = Bounds.told(sum + ";");
    Bounds.due("noise by a law of 900 bytes", x.goer(0, 3), 1);
  }

  @Bounds.Holds(promise = 0, says = "without one: 1 CELL, the house there, DEPTH 9, no GOERS, no PEOPLE")
  static void withoutText() {
    SleepAct x = new SleepAct();
    Bounds.due("cells", x.count(0), 1);
    Bounds.due("goers", x.count(1), 0);
    Bounds.due("people", x.count(2), 0);
    Bounds.due("depth", x.count(3), 9);
    Bounds.due("goer(0, 0)", x.goer(0, 0), -2);
    Bounds.due("first(0)", x.first(0), -2);
  }

  @Bounds.Holds(promise = 0, says = "street N house N depth N ; { LINE ; }")
  static void headAndLines() {
    Bounds.good("street 1 house 0 depth 1;");
    Bounds.good("street 1 house 0 depth 1 ; ");
    Bounds.good("\n street\n1 house 0 depth 1\n;\n");
    cutAtEachToken("", "street 1 house 0 depth 1 ;");
    Bounds.faulty("street 1 house 0 depth 1;;", 2, 25);
    Bounds.faulty("street 1 depth 1 house 0;", 2, 9);
    Bounds.faulty(Bounds.HEAD + "draught 1;;", 2, 35);
    Bounds.faulty(Bounds.HEAD + "draught 1 draught 1;", 2, 35);
  }

  /** A text that ends ahead of any of its tokens has its fault at its end. */
  private static void cutAtEachToken(String ahead, String line) {
    for (int i = 0; i < line.length(); i++) {
      if (line.charAt(i) == ' ') {
        Bounds.faulty(ahead + line.substring(0, i), 2, ahead.length() + i);
        Bounds.faulty(ahead + line.substring(0, i + 1), 2, ahead.length() + i + 1);
      }
    }
    Bounds.good(ahead + line);
  }

  @Bounds.Holds(promise = 0, says = "LINE: goer loud N { FLAG } | people N | bound N N | not N N | cart N noise N | draught N | noise : SUM | sleeps : SUM.")
  static void linesCut() {
    cutAtEachToken(Bounds.HEAD, "goer loud 1 ;");
    cutAtEachToken(Bounds.HEAD, "goer loud 1 at 1 soft 1 ;");
    cutAtEachToken(Bounds.HEAD, "people 2 ;");
    cutAtEachToken(Bounds.HEAD + "people 2;", "bound 0 1 ;");
    cutAtEachToken(Bounds.HEAD + "people 2;", "not 0 1 ;");
    cutAtEachToken(Bounds.HEAD, "cart 1 noise 1 ;");
    cutAtEachToken(Bounds.HEAD, "draught 1 ;");
    cutAtEachToken(Bounds.HEAD, "noise : loud ;");
    cutAtEachToken(Bounds.HEAD, "sleeps : depth ;");
    Bounds.faulty(Bounds.HEAD + "loud 1;", 2, 25);
    Bounds.faulty(Bounds.HEAD + "house 1;", 2, 25);
    Bounds.faulty(Bounds.HEAD + "depth 1;", 2, 25);
    Bounds.faulty(Bounds.HEAD + "goer 1;", 2, 30);
    Bounds.faulty(Bounds.HEAD + "cart 1 2;", 2, 32);
    Bounds.faulty(Bounds.HEAD + "draught : 1;", 2, 33);
    Bounds.faulty(Bounds.HEAD + "noise 1;", 2, 31);
    Bounds.faulty(Bounds.HEAD + "sleeps 1;", 2, 32);
    Bounds.faulty(Bounds.HEAD + "people 2;bound 0 1 1;", 2, 44);
  }

  @Bounds.Holds(promise = 0, says = "FLAG: at N | soft N.")
  static void flagsNoneAndMany() {
    Bounds.good(Bounds.HEAD + "goer loud 1;");
    Bounds.good(Bounds.HEAD + "goer loud 1 soft 1;");
    Bounds.good(Bounds.HEAD + "goer loud 1 at 1 at 2 soft 1 at 3 soft 2 soft 3;");
    Bounds.faulty(Bounds.HEAD + "goer loud 1 loud 2;", 2, 37);
    Bounds.faulty(Bounds.HEAD + "goer loud 1 at;", 2, 39);
    Bounds.faulty(Bounds.HEAD + "goer loud 1 soft at;", 2, 42);
  }

  @Bounds.Holds(promise = 0, says = "SUM: TERM { + TERM | - TERM }; TERM: ATOM { * ATOM };")
  static void sumsCut() {
    cutAtEachToken(Bounds.HEAD, "noise : 1 + 2 * loud - ( 3 - far ) * 2 ;");
    for (String sign : new String[] {"+", "-", "*"}) {
      Bounds.faulty(Bounds.HEAD + "noise:" + sign + "1;", 2, 31);
      Bounds.faulty(Bounds.HEAD + "noise:1" + sign + ";", 2, 33);
      Bounds.faulty(Bounds.HEAD + "noise:1" + sign + sign + "1;", 2, 33);
    }
    Bounds.faulty(Bounds.HEAD + "noise:;", 2, 31);
    Bounds.faulty(Bounds.HEAD + "noise:1 1;", 2, 33);
    Bounds.faulty(Bounds.HEAD + "noise:();", 2, 32);
    Bounds.faulty(Bounds.HEAD + "noise:(1;", 2, 33);
    Bounds.faulty(Bounds.HEAD + "noise:1);", 2, 32);
  }

  @Bounds.Holds(promise = 0, says = "TRUTH: BOTH { or BOTH }; BOTH: UNIT { and UNIT }; UNIT: not UNIT, [ TRUTH ], or SUM, one of = < >, SUM.")
  static void truthsCut() {
    cutAtEachToken(Bounds.HEAD, "sleeps : if not 1 = 2 or [ 1 < 2 and 2 > 1 ] then 4 else 5 end ;");
    Bounds.faulty(Bounds.HEAD + "sleeps:if 1 then 2 else 3 end;", 2, 37);
    Bounds.faulty(Bounds.HEAD + "sleeps:if 1=1=1 then 2 else 3 end;", 2, 38);
    Bounds.faulty(Bounds.HEAD + "sleeps:if (1=1) then 2 else 3 end;", 2, 37);
    Bounds.faulty(Bounds.HEAD + "sleeps:if [1] then 2 else 3 end;", 2, 37);
    Bounds.faulty(Bounds.HEAD + "sleeps:if [1=1 then 2 else 3 end;", 2, 40);
    Bounds.faulty(Bounds.HEAD + "sleeps:if or 1=1 then 2 else 3 end;", 2, 35);
    Bounds.faulty(Bounds.HEAD + "sleeps:if 1=1 then 2 end;", 2, 46);
    Bounds.faulty(Bounds.HEAD + "sleeps:[1=1];", 2, 32);
    Bounds.faulty(Bounds.HEAD + "sleeps:not 1;", 2, 32);
  }

  private static void nests(String open, String close) {
    Bounds.good(Bounds.HEAD + "noise:" + open.repeat(6) + "1" + close.repeat(6) + ";");
    Bounds.faulty(Bounds.HEAD + "noise:" + open.repeat(7) + "1" + close.repeat(7) + ";", 4, 31 + 6 * open.length());
  }

  @Bounds.Holds(promise = 0, says = "At most six of not [ ( if within one another.")
  static void sixWithinOneAnother() {
    nests("(", ")");
    nests("if 1=1 then ", " else 2 end");
    nests("if 1=1 then 2 else ", " end");
    nests("if 1=", " then 2 else 3 end");
    String ahead = Bounds.HEAD + "noise:if ";
    Bounds.good(ahead + "[".repeat(5) + "1=1" + "]".repeat(5) + " then 1 else 2 end;");
    Bounds.faulty(ahead + "[".repeat(6) + "1=1" + "]".repeat(6) + " then 1 else 2 end;", 4, 34 + 5);
    Bounds.good(ahead + "not ".repeat(5) + "1=1 then 1 else 2 end;");
    Bounds.faulty(ahead + "not ".repeat(6) + "1=1 then 1 else 2 end;", 4, 34 + 20);
    Bounds.good(ahead + "not [not [not 1=1]] then 1 else 2 end;");
    Bounds.faulty(ahead + "not [not [not (1)=1]] then 1 else 2 end;", 4, 34 + 14);
    Bounds.good(ahead + "not not not not 1=(1) then 1 else 2 end;");
    Bounds.faulty(ahead + "not not not not not 1=(1) then 1 else 2 end;", 4, 34 + 22);
    // those that are closed count no more
    Bounds.good(Bounds.HEAD + "noise:" + "(((((1)))))+".repeat(9) + "((((((1))))));");
    Bounds.good(ahead + "not not not not not 1=1 and not not not not not 1=1 or [[[[[1=1]]]]] then (((((1))))) else (((((2))))) end*((((((1))))));");
    Bounds.good(Bounds.HEAD + "noise:((((((1))))));sleeps:((((((1))))));");
    // nor do those of a text with a fault
    SleepAct x = new SleepAct();
    Bounds.due("seven", Bounds.read(x, Bounds.HEAD + "noise:((((((("), -34);
    Bounds.due("six of another text", Bounds.read(x, Bounds.HEAD + "noise:((((((1))))));"), 2);
    Bounds.due("three, none closed", Bounds.read(x, Bounds.HEAD + "noise:((("), -32);
    Bounds.due("six of another text", Bounds.read(x, Bounds.HEAD + "sleeps:((((((1))))));"), 2);
  }

  // ---- the bounds of numbers

  @Bounds.Holds(promise = 0, says = "street: how many CELLS, 1 to 6;")
  static void cells1to6() {
    Bounds.within("street ", 1, 6, " house 0 depth 1;");
    for (int n = 1; n <= 6; n++) Bounds.due("cells", Bounds.told("street " + n + " house 0 depth 1;").count(0), n);
  }

  @Bounds.Holds(promise = 0, says = "the CELL of the house, 0 to as many less 1;")
  static void houseInTheStreet() {
    for (int n = 1; n <= 6; n++) Bounds.within("street " + n + " house ", 0, n - 1, " depth 1;");
  }

  @Bounds.Holds(promise = 0, says = "the DEPTH, 1 to 9.")
  static void depth1to9() {
    Bounds.within("street 1 house 0 depth ", 1, 9, ";");
    for (int n = 1; n <= 9; n++) Bounds.due("depth", Bounds.told("street 1 house 0 depth " + n + ";").count(3), n);
  }

  @Bounds.Holds(promise = 0, says = "goer: loud 0 to 9;")
  static void loud0to9() {
    Bounds.within(Bounds.HEAD + "goer loud ", 0, 9, ";");
    for (int n = 0; n <= 9; n++) Bounds.due("loud", Bounds.told(Bounds.HEAD + "goer loud " + n + ";").goer(0, 1), n);
  }

  @Bounds.Holds(promise = 0, says = "at: the CELL where it is, 0 to as many as there are (0),")
  static void atInTheStreetOrPast() {
    for (int n = 1; n <= 6; n++) {
      String head = "street " + n + " house 0 depth 1;goer loud 1";
      Bounds.within(head + " at ", 0, n, ";");
      Bounds.due("at " + n + ", PAST", Bounds.told(head + " at " + n + ";").count(4), 1);
      Bounds.due("at " + (n - 1) + ", the last CELL", Bounds.told(head + " at " + (n - 1) + ";").count(4), 0);
      Bounds.due("not told", Bounds.told(head + ";").goer(0, 0), 0);
    }
  }

  @Bounds.Holds(promise = 0, says = "soft 0 to 9 (0), later ones strike;")
  static void soft0to9() {
    Bounds.within(Bounds.HEAD + "goer loud 1 soft ", 0, 9, ";");
    Bounds.due("not told", Bounds.told(Bounds.HEAD + "goer loud 1;").goer(0, 2), 0);
    SleepAct x = Bounds.told(Bounds.HEAD + "goer loud 1 at 3 soft 9 at 1 soft 0;goer loud 2 soft 2 soft 7 at 0 at 3;");
    Bounds.due("a later at", x.goer(0, 0), 1);
    Bounds.due("a later soft", x.goer(0, 2), 0);
    Bounds.due("a later at", x.goer(1, 0), 3);
    Bounds.due("a later soft", x.goer(1, 2), 7);
  }

  @Bounds.Holds(promise = 0, says = "numbered from 0 on, 4 at most.")
  static void fourGoers() {
    StringBuilder text = new StringBuilder(Bounds.HEAD);
    for (int n = 0; n <= 4; n++) {
      SleepAct x = Bounds.told(text.toString());
      Bounds.due("goers", x.count(1), n);
      for (int g = 0; g < n; g++) Bounds.due("loud of " + g, x.goer(g, 1), g + 3);
      Bounds.due("no goer " + n, x.goer(n, 1), -2);
      text.append("goer loud ").append(n + 3).append(";");
    }
    Bounds.faulty(text.toString(), 4, 25 + 4 * 12);
    // another text tells them anew
    SleepAct x = new SleepAct();
    Bounds.due("five", Bounds.read(x, text.toString()), -34);
    Bounds.due("four of another text", Bounds.read(x, text.substring(0, 25 + 4 * 12)), 5);
    Bounds.due("four of a third text", Bounds.read(x, text.substring(0, 25 + 4 * 12)), 5);
    Bounds.due("goers", x.count(1), 4);
  }

  @Bounds.Holds(promise = 0, says = "people: 0 to 8 (0);")
  static void people0to8() {
    Bounds.within(Bounds.HEAD + "people ", 0, 8, ";");
    for (int n = 0; n <= 8; n++) Bounds.due("people", Bounds.told(Bounds.HEAD + "people " + n + ";").count(2), n);
    Bounds.due("not told", Bounds.told(Bounds.HEAD).count(2), 0);
  }

  @Bounds.Holds(promise = 0, says = "told once at most, ahead of bound, not.")
  static void peopleOnceAheadOfHints() {
    Bounds.faulty(Bounds.HEAD + "people 2;people 2;", 2, 34);
    Bounds.faulty(Bounds.HEAD + "people 0;draught 1;people 3;", 2, 44);
    Bounds.faulty(Bounds.HEAD + "bound 0 1;people 2;", 3, 31);
    Bounds.faulty(Bounds.HEAD + "not 0 1;people 2;", 3, 29);
    Bounds.good(Bounds.HEAD + "people 2;draught 1;goer loud 1;not 0 1;bound 0 1;");
    // another text tells them anew
    SleepAct x = new SleepAct();
    Bounds.due("people with a fault", Bounds.read(x, Bounds.HEAD + "people 2;people 2;"), -32);
    Bounds.due("people of another text", Bounds.read(x, Bounds.HEAD + "people 2;"), 2);
    Bounds.due("people of a third text", Bounds.read(x, Bounds.HEAD + "people 3;not 1 2;"), 3);
    Bounds.due("people of the text ahead don't count", Bounds.read(x, Bounds.HEAD + "not 0 1;"), -33);
  }

  @Bounds.Holds(promise = 0, says = "bound, not: two PEOPLE, not one: a HINT that the act binds them, that it doesn't.")
  static void hintsOfTwoPeople() {
    for (String word : new String[] {"bound ", "not "}) {
      for (int n = 2; n <= 8; n++) {
        String ahead = Bounds.HEAD + "people " + n + ";" + word;
        int least = 0;
        for (int p : new int[] {least, n - 1}) {
          Bounds.faulty(ahead + p + " " + p + ";", 3, ahead.length() + 2);
          Bounds.faulty(ahead + p + " " + n + ";", 3, ahead.length() + 2);
          Bounds.faulty(ahead + n + " " + p + ";", 3, ahead.length());
          Bounds.good(ahead + p + " " + (n - 1 - p) + ";");
        }
      }
      Bounds.faulty(Bounds.HEAD + "people 1;" + word + "0 0;", 3, 34 + word.length() + 2);
      Bounds.faulty(Bounds.HEAD + "people 0;" + word + "0 1;", 3, 34 + word.length());
    }
    Bounds.due("bound", Bounds.told(Bounds.HEAD + "people 2;bound 1 0;").hints(1), 1);
    Bounds.due("not", Bounds.told(Bounds.HEAD + "people 2;not 1 0;").hints(0), 1);
  }

  @Bounds.Holds(promise = 0, says = "cart: how likely one passes, in 10, 0 to 10 (0),")
  static void cart0to10() {
    Bounds.within(Bounds.HEAD + "cart ", 0, 10, " noise 1;");
    String law = "sleeps:if noise>0 then 0 else 5 end;";
    int[] above = {1, 9, 4, 7, 3, 1, 2, 3, 1, 1, 0};
    int[] below = {1, 10, 5, 10, 5, 2, 5, 10, 5, 10, 1};
    for (int n = 0; n <= 10; n++) {
      SleepAct x = Bounds.told(Bounds.HEAD + law + "cart " + n + " noise 9;");
      Bounds.tray(x, 0, 0);
      Bounds.due("chance above with cart " + n, x.chance(0, 0), above[n]);
      Bounds.due("chance below with cart " + n, x.chance(0, 1), below[n]);
    }
    SleepAct x = Bounds.told(Bounds.HEAD + law);
    Bounds.tray(x, 0, 0);
    Bounds.due("not told", x.chance(0, 0), 1);
    Bounds.due("not told", x.chance(0, 1), 1);
  }

  @Bounds.Holds(promise = 0, says = "its noise 0 to 9 (0).")
  static void cartNoise0to9() {
    Bounds.within(Bounds.HEAD + "cart 10 noise ", 0, 9, ";");
    for (int n = 0; n <= 9; n++) {
      SleepAct x = Bounds.told(Bounds.HEAD + "sleeps:noise;cart 10 noise " + n + ";");
      Bounds.tray(x, 0, 0);
      Bounds.due("depth by noise " + n, x.mean(0, 0), n);
    }
  }

  @Bounds.Holds(promise = 0, says = "draught: 0 to 9 (0).")
  static void draught0to9() {
    Bounds.within(Bounds.HEAD + "draught ", 0, 9, ";");
    for (int n = 0; n <= 9; n++) Bounds.due("draught", Bounds.told(Bounds.HEAD + "draught " + n + ";").count(5), n);
    Bounds.due("not told", Bounds.told(Bounds.HEAD).count(5), 0);
  }

  @Bounds.Holds(promise = 0, says = "Later ones of cart, draught, noise, sleeps strike.")
  static void laterOnesStrike() {
    SleepAct x = Bounds.told(Bounds.HEAD + "goer loud 1;cart 0 noise 9;cart 10 noise 2;draught 9;draught 0;noise:9;noise:3;sleeps:9;sleeps:depth+noise;");
    Bounds.tray(x, 0, 0);
    Bounds.due("a later cart", x.mean(0, 0), 6);
    Bounds.due("a later draught", x.count(5), 0);
    Bounds.due("a later noise", x.goer(0, 3), 3);
    Bounds.due("a later sleeps", x.by(1), 7);
    Bounds.due("each is a LINE", x.count(9), 10);
  }

  // ---- tokens

  @Bounds.Holds(promise = 0, says = "TOKENS, as long as they go on, between them blanks (10, 32):")
  static void tokensGoOn() {
    Bounds.good("street\n1\nhouse 0 \n depth 1\n;");
    Bounds.good("street1house0depth1;people2;bound0 1;");
    Bounds.faulty("streethouse 1", 2, 0);
    Bounds.faulty("str eet 1", 2, 0);
    Bounds.faulty("street 1house0depth10;", 3, 19);
    Bounds.faulty("street 1house0depth1 0;", 2, 21);
    Bounds.faulty(Bounds.HEAD + "goer loud 1 at 1soft 12at;", 3, 46);
    Bounds.faulty(Bounds.HEAD + "goer loud 1 atsoft 1;", 2, 37);
  }

  /** What may begin a line stands alone; then it is a token that can't stand there, or none. */
  @Bounds.Holds(promise = 0, says = "words (small letters), N (1 to 3 digits), the signs ; : + - * ( ) [ ] = < >.")
  static void eachByte() {
    for (int c = 0; c < 256; c++) {
      String text = Bounds.HEAD + (char) c;
      boolean token = c >= 'a' && c <= 'z' || c >= '0' && c <= '9' || ";:+-*()[]=<>".indexOf(c) >= 0;
      if (c == 10 || c == 32) Bounds.good(text);
      else Bounds.faulty(text, token ? 2 : 1, 25);
    }
  }

  @Bounds.Holds(promise = 0, says = "1 no TOKEN begins so (4 digits and more: at their first).")
  static void noTokenBeginsSo() {
    Bounds.good("street 001 house 000 depth 009;");
    Bounds.faulty("street 0001 house 0 depth 1;", 1, 7);
    Bounds.faulty("street 1 house 0000000000000000000000 depth 1;", 1, 15);
    Bounds.faulty("street 1 house 0 depth 99999999999;", 1, 23);
    Bounds.good(Bounds.HEAD + "noise:999;");
    Bounds.faulty(Bounds.HEAD + "noise:1000;", 1, 31);
    Bounds.faulty("street\t1 house 0 depth 1;", 1, 6);
    Bounds.faulty("Street 1 house 0 depth 1;", 1, 0);
    Bounds.faulty("streeT 1 house 0 depth 1;", 2, 0);
    Bounds.faulty("street 1,house 0 depth 1;", 1, 8);
    Bounds.faulty("street 1 house 0 depth 1;\u00ff", 1, 25);
  }

  @Bounds.Holds(promise = 0, says = "FAULTS, the first along the text,")
  static void firstAlongTheText() {
    Bounds.faulty("street 7 house 0 depth 1;A", 3, 7);
    Bounds.faulty("street 1 street A", 2, 9);
    Bounds.faulty(Bounds.HEAD + "noise:(((((((1000", 4, 37);
    Bounds.faulty(Bounds.HEAD + "goer loud 1;".repeat(5) + "A", 4, 73);
    Bounds.faulty(Bounds.HEAD + "people 9 A", 3, 32);
    Bounds.faulty("A street 7", 1, 0);
  }

  @Bounds.Holds(promise = 0, says = "of one TOKEN the least kind:")
  static void leastKind() {
    // no token, and out of its bounds, and where none can stand
    Bounds.faulty("street 7777 house 0 depth 1;", 1, 7);
    Bounds.faulty("street 1 7777", 1, 9);
    // can't stand there, and out of its bounds
    Bounds.faulty("street 1 999", 2, 9);
    Bounds.faulty(Bounds.HEAD + "goer 10;", 2, 30);
    // can't stand there, and a fifth goer
    Bounds.faulty(Bounds.HEAD + "goer loud 1;goer loud 1;goer loud 1;goer loud 1 goer loud 1;", 2, 73);
    // can't stand there, and a seventh
    Bounds.faulty(Bounds.HEAD + "noise:(((((([", 2, 37);
    Bounds.faulty(Bounds.HEAD + "noise:((((((not", 2, 37);
    Bounds.faulty(Bounds.HEAD + "noise:((((((1 (", 2, 39);
    Bounds.faulty(Bounds.HEAD + "noise:((((((1 if", 2, 39);
  }

  @Bounds.Holds(promise = 0, says = "2 it can't stand there (the end: the text's length;")
  static void endOfTheText() {
    Bounds.faulty("", 2, 0);
    Bounds.faulty(" ", 2, 1);
    Bounds.faulty("\n\n \n", 2, 4);
    Bounds.faulty("street", 2, 6);
    Bounds.faulty("street 1 house 0 depth 1", 2, 24);
    Bounds.faulty("street 1 house 0 depth 1 \n", 2, 26);
    // the tape goes on behind the text
    SleepAct x = new SleepAct();
    Bounds.feed(x, "street 1 house 0 depth 1;");
    Bounds.due("street(24)", x.street(24), -32);
    Bounds.due("its place", x.fault(1), 24);
    Bounds.feed(x, "street 1 house 0 depth 12;");
    Bounds.due("street(24), a number cut", x.street(24), -32);
    Bounds.due("its place", x.fault(1), 24);
    Bounds.feed(x, "street 12 house 0 depth 1;");
    Bounds.due("street(8), a number cut", x.street(8), -32);
    Bounds.due("its place", x.fault(1), 8);
    Bounds.feed(x, "street 1 house 0 depth 1;");
    Bounds.due("street(4), a word cut", x.street(4), -32);
    Bounds.due("its place", x.fault(1), 0);
  }

  @Bounds.Holds(promise = 0, says = "street must be told first, and once;")
  static void streetFirstAndOnce() {
    Bounds.faulty("people 2;" + Bounds.HEAD, 2, 0);
    Bounds.faulty("goer loud 1;", 2, 0);
    Bounds.faulty(";", 2, 0);
    Bounds.faulty("1", 2, 0);
    Bounds.faulty(Bounds.HEAD + Bounds.HEAD, 2, 25);
    Bounds.faulty(Bounds.HEAD + "people 2;" + Bounds.HEAD, 2, 34);
  }

  @Bounds.Holds(promise = 0, says = "people again; a word of the other law).")
  static void peopleAgainWordsOfTheOtherLaw() {
    Bounds.faulty(Bounds.HEAD + "people 0;people 99;", 2, 34);
    for (String word : new String[] {"noise", "steps", "past"}) {
      Bounds.faulty(Bounds.HEAD + "noise:" + word + ";", 2, 31);
      Bounds.good(Bounds.HEAD + "sleeps:" + word + ";");
    }
    for (String word : new String[] {"goer", "loud", "soft", "far"}) {
      Bounds.faulty(Bounds.HEAD + "sleeps:1+" + word + ";", 2, 34);
      Bounds.good(Bounds.HEAD + "noise:1+" + word + ";");
    }
    for (String word : new String[] {"draught", "depth"}) {
      Bounds.good(Bounds.HEAD + "sleeps:" + word + ";");
      Bounds.good(Bounds.HEAD + "noise:" + word + ";");
    }
    for (String word : new String[] {"at", "house", "street", "people", "cart", "bound", "end", "x"}) {
      Bounds.faulty(Bounds.HEAD + "sleeps:" + word + ";", 2, 32);
      Bounds.faulty(Bounds.HEAD + "noise:" + word + ";", 2, 31);
    }
  }

  @Bounds.Holds(promise = 0, says = "3 an N out of its bounds (one and the same; PEOPLE that aren't told).")
  static void outOfBounds() {
    Bounds.faulty("street 0 house 0 depth 1;", 3, 7);
    Bounds.faulty("street 000 house 0 depth 1;", 3, 7);
    Bounds.faulty(Bounds.HEAD + "people 2;not 1 1;", 3, 40);
    Bounds.faulty(Bounds.HEAD + "people 2;not 1 001;", 3, 40);
    Bounds.faulty(Bounds.HEAD + "people 2;not 2 2;", 3, 38);
    Bounds.faulty(Bounds.HEAD + "bound 0 1;", 3, 31);
    Bounds.faulty(Bounds.HEAD + "not 0 0;", 3, 29);
  }

  @Bounds.Holds(promise = 0, says = "4 the first TOKEN of a 5th goer; a seventh of not [ ( if.")
  static void oneTooMany() {
    String four = Bounds.HEAD + "goer loud 1;goer loud 2 at 3;goer loud 3;goer loud 4;";
    Bounds.good(four);
    Bounds.faulty(four + "draught 1; goer", 4, four.length() + 11);
    Bounds.faulty(four + "goer loud 10;", 4, four.length());
    Bounds.faulty(Bounds.HEAD + "noise:((((((if", 4, 37);
    Bounds.faulty(Bounds.HEAD + "noise:(((((((", 4, 37);
    Bounds.faulty(Bounds.HEAD + "noise:(((((if not", 4, 39);
    Bounds.faulty(Bounds.HEAD + "noise:(((((if [", 4, 39);
  }

  // ---- promises 1 to 4

  @Bounds.Holds(promise = 1, says = "1 CELL, DEPTH 9, nobody.")
  static void newObject() {
    SleepAct x = new SleepAct();
    int[] want = {1, 0, 0, 9, 0, 0, 0, 0, 0, 0, -1};
    for (int i = 0; i < want.length; i++) Bounds.due("count(" + i + ")", x.count(i), want[i]);
    Bounds.due("fault(0)", x.fault(0), 0);
    Bounds.due("fault(1)", x.fault(1), -1);
    Bounds.due("ways()", x.ways(), 1);
    Bounds.due("hints", x.hints(0) + x.hints(1), 0);
    Bounds.due("undo(1)", x.undo(1), -3);
    Bounds.due("stands()", x.stands(), 1);
    Bounds.due("by(0)", x.by(0), 9);
    for (int t = 0; t < 4; t++) Bounds.due("tray " + t, x.perform(t), -6);
    for (int i = 0; i < 2; i++) Bounds.due("image " + i, x.restore(i), -5);
  }

  @Bounds.Holds(promise = 2, says = "Twenty bytes come behind those on THE TAPE, the highest of each int first: how many it has.")
  static void feedBytes() {
    SleepAct x = new SleepAct();
    for (int i = 1; i <= 45; i++) {
      Bounds.due("feed", x.feed(-1, Integer.MIN_VALUE, Integer.MAX_VALUE, 0, 0x80ff7f01), 20 * i);
      Bounds.due("count(8)", x.count(8), 20 * i);
    }
    x = new SleepAct();
    x.feed(0x73747265, 0x65742032, 0x20686f75, 0x73652031, 0x20646570);
    x.feed(0x74682037, 0x3bffffff, -1, -1, -1);
    Bounds.due("street(25)", x.street(25), 1);
    Bounds.due("cells", x.count(0), 2);
    Bounds.due("depth", x.count(3), 7);
    // each byte at its own place
    for (int i = 0; i < 20; i++) {
      int[] w = {0x20202020, 0x20202020, 0x20202020, 0x20202020, 0x20202020};
      w[i / 4] ^= 0x61 << 24 - 8 * (i % 4);
      x.feed(w[0], w[1], w[2], w[3], w[4]);
      x.street(20);
      Bounds.due("the place of byte " + i, x.fault(1), i);
    }
  }

  @Bounds.Holds(promise = 2, says = "-5: it would have more than 900.")
  static void feedTooMuch() {
    SleepAct x = new SleepAct();
    String text = Bounds.HEAD + blanks(866) + "people 4;";
    Bounds.feed(x, text);
    Bounds.due("full", x.count(8), 900);
    Bounds.due("feed of more", x.feed(-1, -1, -1, -1, -1), -5);
    Bounds.due("count(8)", x.count(8), 900);
    Bounds.due("feed of more again", x.feed(0x20202020, 0, 0, 0, 0), -5);
    Bounds.due("the tape stays", x.street(900), 2);
    Bounds.due("people", x.count(2), 4);
    Bounds.due("feed behind", x.feed(0, 0, 0, 0, 0), 20);
  }

  @Bounds.Holds(promise = 3, says = "The first n bytes of THE TAPE (which is empty then) are THE STREET,")
  static void streetOfTheFirstBytes() {
    SleepAct x = new SleepAct();
    Bounds.feed(x, Bounds.HEAD + "people 4;");
    Bounds.due("street(25)", x.street(25), 1);
    Bounds.due("empty", x.count(8), 0);
    Bounds.due("no people", x.count(2), 0);
    Bounds.due("street(0)", x.street(0), -32);
    Bounds.due("street(1) of an empty tape", x.street(1), -3);
    Bounds.feed(x, "street 2 house 1 depth 3;               ");
    Bounds.due("street(40), all of it", x.street(40), 1);
    Bounds.feed(x, "street 2 house 1 depth 3;A");
    Bounds.due("street(26)", x.street(26), -31);
    Bounds.due("empty behind a fault", x.count(8), 0);
    // what was on the tape is not there any more
    x.feed(0x20202020, 0x20202020, 0x20202020, 0x20202020, 0x20202020);
    Bounds.due("street(20) of blanks", x.street(20), -32);
    Bounds.due("its place", x.fault(1), 20);
  }

  @Bounds.Holds(promise = 3, says = "HOURS are 0, nothing can be UNDONE:")
  static void streetBeginsAnew() {
    SleepAct x = Bounds.told(Bounds.HEAD + "people 4;goer loud 1;");
    x.hours(3);
    x.hint(0, 1, 0);
    x.hour(1);
    x.draught(5);
    Bounds.due("street", Bounds.read(x, Bounds.HEAD + "people 4;goer loud 1;"), 3);
    Bounds.due("hours", x.count(6), 0);
    Bounds.due("calls", x.count(7), 0);
    Bounds.due("undo(1)", x.undo(1), -3);
    Bounds.due("depth", x.count(3), 4);
    Bounds.due("draught", x.count(5), 0);
    Bounds.due("hints", x.hints(0), 0);
    Bounds.due("goer", x.goer(0, 0), 0);
  }

  @Bounds.Holds(promise = 3, says = "how many LINES (street, too; all stays with a FAULT).")
  static void streetWithAFault() {
    SleepAct x = Bounds.told(Bounds.HEAD + "people 4;goer loud 1;draught 1;");
    Bounds.due("lines", x.count(9), 4);
    x.hours(3);
    x.hint(0, 1, 0);
    x.hour(1);
    x.image(1);
    Bounds.tray(x, 2, 1, 0, 101);
    long[] before = Bounds.stand(x);
    String[] texts = {"", "street 6 house 5 depth 9", "street 6 house 5 depth 9;people 8;goer loud 9;noise:1;sleeps:0;draught 9;cart 10 noise 9;A"};
    for (String text : texts) {
      Bounds.due("with a fault", Bounds.read(x, text) < -30 ? 1 : 0, 1);
      long[] then = Bounds.stand(x);
      // but for the fault itself
      for (int i = 0; i < before.length; i++) if (i == 53 || i == 54) then[i] = before[i];
      Bounds.same("street with a fault", then, before);
    }
    Bounds.due("undo(3)", x.undo(3), 0);
    Bounds.due("restore(1)", x.restore(1), 0);
    Bounds.due("hours", x.count(6), 4);
    Bounds.due("one LINE", Bounds.read(x, Bounds.HEAD), 1);
  }

  @Bounds.Holds(promise = 3, says = "-3: n is below 0 or above what there is (THE TAPE stays); -30 less the FAULT.")
  static void streetRefused() {
    SleepAct x = new SleepAct();
    Bounds.due("street(1) of none", x.street(1), -3);
    Bounds.feed(x, Bounds.HEAD);
    for (int n : new int[] {-1, Integer.MIN_VALUE, 41, 900, 901, Integer.MAX_VALUE}) {
      Bounds.due("street(" + n + ")", x.street(n), -3);
      Bounds.due("the tape stays", x.count(8), 40);
      Bounds.due("no fault", x.fault(0), 0);
    }
    Bounds.due("street(25)", x.street(25), 1);
    Bounds.due("a fault of kind 1", Bounds.read(x, "A"), -31);
    Bounds.due("a fault of kind 2", Bounds.read(x, "a"), -32);
    Bounds.due("a fault of kind 3", Bounds.read(x, "street 0"), -33);
    Bounds.due("a fault of kind 4", Bounds.read(x, Bounds.HEAD + "noise:((((((("), -34);
  }

  @Bounds.Holds(promise = 4, says = "Of the latest street() that was read, what 0: its FAULT (0), 1: its place (NONE).")
  static void faultOfTheLatest() {
    SleepAct x = new SleepAct();
    Bounds.due("none was read", x.fault(0), 0);
    Bounds.due("none was read", x.fault(1), -1);
    Bounds.read(x, " \u0000");
    Bounds.due("fault(0)", x.fault(0), 1);
    Bounds.due("fault(1)", x.fault(1), 1);
    x.street(7);
    x.street(-1);
    Bounds.feed(x, Bounds.HEAD);
    Bounds.due("a refused one wasn't read", x.fault(0), 1);
    Bounds.due("a refused one wasn't read", x.fault(1), 1);
    x.image(0);
    x.restore(0);
    Bounds.due("restore reads none", x.fault(0), 1);
    Bounds.due("street(25)", x.street(25), 1);
    Bounds.due("no fault", x.fault(0), 0);
    Bounds.due("no place", x.fault(1), -1);
  }

  @Bounds.Holds(promise = 4, says = "NONE for others.")
  static void faultOfOthers() {
    SleepAct x = new SleepAct();
    Bounds.read(x, "      street 0");
    for (int what : new int[] {-1, 2, 3, Integer.MIN_VALUE, Integer.MAX_VALUE}) Bounds.due("fault(" + what + ")", x.fault(what), -1);
    Bounds.due("fault(0)", x.fault(0), 3);
    Bounds.due("fault(1)", x.fault(1), 13);
  }
}
