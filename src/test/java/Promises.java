/** For each promise of the document: ordinary inputs, the edges that it names, wrong inputs; all due answers by hand. */
public final class Promises {
  private static int wrong = 0;
  private static int looked = 0;

  private static void due(int promise, String what, long got, long want) {
    looked++;
    if (got != want) {
      wrong++;
      System.out.println("promise " + promise + ": " + what + " answered " + got + ", due is " + want);
    }
  }

  /** Feeds a text, the last piece filled up with blanks. */
  private static void feed(SleepAct x, String text) {
    for (int i = 0; i < text.length(); i += 20) {
      int[] w = new int[5];
      for (int k = 0; k < 20; k++) {
        int c = i + k < text.length() ? text.charAt(i + k) & 255 : 32;
        w[k / 4] = w[k / 4] << 8 | c;
      }
      x.feed(w[0], w[1], w[2], w[3], w[4]);
    }
  }

  private static int read(SleepAct x, String text) {
    feed(x, text);
    return x.street(text.length());
  }

  private static SleepAct told(String text) {
    SleepAct x = new SleepAct();
    int lines = read(x, text);
    if (lines < 1) {
      wrong++;
      System.out.println("not read: " + text + " (" + lines + " at " + x.fault(1) + ")");
    }
    return x;
  }

  private static void tray(SleepAct x, int tray, long... v) {
    x.numbers(tray, 3, v.length);
    for (int i = 0; i < v.length; i++) x.write(tray, i, v[i]);
  }

  public static void main(String[] args) {
    p01();
    p02();
    p03();
    p04();
    p04Nests();
    p05();
    p05Laws();
    p06p07();
    p08();
    p09();
    p10p11();
    p12p13();
    p14();
    p15p16();
    p17();
    p18to20();
    p21p22();
    p23to25();
    p26to28();
    p29p30();
    p31p32();
    p33p34();
    p35to37();
    p38p39();
    p40();
    keptBetweenCalls();
    keptApart();
    System.out.println(wrong == 0 ? looked + " answers are as due" : wrong + " of " + looked + " answers are not as due");
    if (wrong != 0) System.exit(1);
  }

  private static void p01() {
    SleepAct x = new SleepAct();
    int[] want = {1, 0, 0, 9, 0, 0, 0, 0, 0, 0};
    for (int i = 0; i < 10; i++) due(1, "count(" + i + ") of a new object", x.count(i), want[i]);
    due(1, "NONE", SleepAct.NONE, -1);
    due(1, "fault(0)", x.fault(0), 0);
    due(1, "fault(1)", x.fault(1), -1);
    due(1, "ways()", x.ways(), 1);
    due(1, "deepest()", x.deepest(), 9);
    due(1, "hour(0)", x.hour(0), 9);
  }

  private static void p02() {
    SleepAct x = new SleepAct();
    for (int i = 1; i <= 45; i++) due(2, "feed", x.feed(-1, 2, 3, Integer.MIN_VALUE, Integer.MAX_VALUE), 20 * i);
    due(2, "feed of too much", x.feed(0, 0, 0, 0, 0), -5);
    due(2, "count(8)", x.count(8), 900);
    due(2, "street(0)", x.street(0), -32);
    due(2, "count(8) then", x.count(8), 0);
    due(2, "feed 'stre' 'et 2' ' hou' 'se 1' ' dep'", x.feed(0x73747265, 0x65742032, 0x20686f75, 0x73652031, 0x20646570), 20);
    due(2, "feed 'th 7' ';'", x.feed(0x74682037, 0x3b202020, 0x20202020, 0x20202020, 0x20202020), 40);
    due(2, "street(40)", x.street(40), 1);
    due(2, "count(0)", x.count(0), 2);
    due(2, "count(3)", x.count(3), 7);
    String whole = "street 1 house 0 depth 1;";
    StringBuilder b = new StringBuilder(whole);
    while (b.length() + 9 <= 900) b.append("draught9;");
    while (b.length() < 900) b.append(' ');
    due(2, "a text of 900 bytes", read(x, b.toString()), 1 + 97);
    due(2, "count(5)", x.count(5), 9);
  }

  private static void p03() {
    SleepAct x = new SleepAct();
    feed(x, "street 3 house 2 depth 5;");
    due(3, "street(-1)", x.street(-1), -3);
    due(3, "street(41)", x.street(41), -3);
    due(3, "street(minimum)", x.street(Integer.MIN_VALUE), -3);
    due(3, "the tape stays", x.count(8), 40);
    due(3, "no fault was read", x.fault(0), 0);
    due(3, "street(40)", x.street(40), 1);
    due(3, "the tape is empty", x.count(8), 0);
    due(3, "count(9)", x.count(9), 1);
    due(3, "hours(2)", x.hours(2), 7);
    due(3, "draught(4)", x.draught(4), 0);
    due(3, "a faulty text", read(x, "street 1 house 0 depth 2;people 8;people"), -32);
    due(3, "its tape is empty, too", x.count(8), 0);
    due(3, "cells stay", x.count(0), 3);
    due(3, "people stay", x.count(2), 0);
    due(3, "depth stays", x.count(3), 7);
    due(3, "draught stays", x.count(5), 4);
    due(3, "hours stay", x.count(6), 2);
    due(3, "undoing stays", x.count(7), 2);
    due(3, "lines stay", x.count(9), 1);
    due(3, "a good text", read(x, "street 4 house 3 depth 2\n;\npeople 5;goer loud 2 at 1 soft 3 at 4 soft 9;draught 3;draught 6;"), 5);
    due(3, "hours are 0", x.count(6), 0);
    due(3, "nothing can be undone", x.count(7), 0);
    due(3, "undo(1)", x.undo(1), -3);
    due(3, "cells", x.count(0), 4);
    due(3, "depth", x.count(3), 2);
    due(3, "people", x.count(2), 5);
    due(3, "a later at strikes", x.goer(0, 0), 4);
    due(3, "a later soft strikes", x.goer(0, 2), 9);
    due(3, "a later draught strikes", x.count(5), 6);
    due(3, "only the first bytes are the text", readFirst(x, "street 1 house 0 depth 9;XYZ", 25), 1);
    due(3, "tokens without blanks", read(x, "street6house5depth9;goer loud1at6soft2;people8;not7 6;bound 6 7;cart10noise9;"), 6);
    due(3, "of two again the later hint", x.hints(1) * 10 + x.hints(0), 10);
    x = told("street 1 house 0 depth 5;noise: 9;noise: 1;sleeps: 9;sleeps: depth-noise;cart 1 noise 9;cart 10 noise 3;goer loud 7;");
    due(3, "a later noise strikes", x.goer(0, 3), 1);
    due(3, "a later sleeps strikes", x.by(1), 4);
    tray(x, 0, 0);
    due(3, "a later cart strikes", x.mean(0, 0), 2);
  }

  private static int readFirst(SleepAct x, String text, int n) {
    feed(x, text);
    return x.street(n);
  }

  private static void faulty(String text, int kind, int place) {
    SleepAct x = new SleepAct();
    due(3, "street of '" + text + "'", read(x, text), kind == 0 ? x.count(9) : -30 - kind);
    due(4, "fault(0) of '" + text + "'", x.fault(0), kind);
    due(4, "fault(1) of '" + text + "'", x.fault(1), place);
  }

  private static void p04() {
    SleepAct x = told("street 1 house 0 depth 1;");
    due(4, "fault(0)", x.fault(0), 0);
    due(4, "fault(1)", x.fault(1), -1);
    due(4, "fault(2)", x.fault(2), -1);
    due(4, "fault(-1)", x.fault(-1), -1);
    read(x, " A");
    x.street(5);
    due(4, "fault(0) of the latest that was read", x.fault(0), 1);
    due(4, "fault(1) of the latest that was read", x.fault(1), 1);
    String h = "street 3 house 1 depth 4;";
    faulty("", 2, 0);
    faulty("   ", 2, 3);
    faulty("Street", 1, 0);
    faulty("\tstreet", 1, 0);
    faulty("streets 1", 2, 0);
    faulty("street 0001", 1, 7);
    faulty("street house", 2, 7);
    faulty("street 6 house 6 depth 1;", 3, 15);
    faulty("street 6 house 5 depth 9;", 0, -1);
    faulty("street 1 house 0 depth 1; ", 0, -1);
    faulty("street 1 house 0 depth 1 ", 2, 25);
    faulty("street 1 house 0 depth 1;;", 2, 25);
    faulty("street 1 house 0 depth 1;\u00e9", 1, 25);
    faulty("street 1 house 0 depth 1;\u0000", 1, 25);
    faulty("street 1 house 0 depth 1;\r", 1, 25);
    faulty("street 1 house 0 depth 99 A", 3, 23);
    faulty(h + "street 3 house 1 depth 4;", 2, 25);
    faulty(h + "goer loud 9 at 3 soft 9;", 0, -1);
    faulty(h + "goer loud 9 at 4;", 3, 40);
    faulty(h + "goer at 1 loud 2;", 2, 30);
    faulty(h + "goer loud 1;goer loud 2;goer loud 3;goer loud 4;", 0, -1);
    faulty(h + "goer loud 1;goer loud 2;goer loud 3;goer loud 4;goer X", 4, 73);
    faulty(h + "people 0;people 0;", 2, 34);
    faulty(h + "not 0 1;people 2;", 3, 29);
    faulty(h + "people 1;not 0 0;", 3, 40);
    faulty(h + "people 3;not 2 1;bound 1 2;", 0, -1);
    faulty(h + "people 3;not 3 1;", 3, 38);
    faulty(h + "people 3;bound 1 999;", 3, 42);
    faulty(h + "people 3;bound 1 2 0;", 2, 44);
    faulty(h + "cart 10 noise 9;cart 0 noise 0;", 0, -1);
    faulty(h + "cart 10 1;", 2, 33);
    faulty(h + "draught;", 2, 32);
    faulty(h + "draught 0;draught 9;goer loud 0 soft 0 at 0;people 0;", 0, -1);
    faulty(h + "zaz", 2, 25);
    faulty(h + "az9", 2, 25);
    faulty(h + "`", 1, 25);
    faulty(h + "{", 1, 25);
    faulty(h + "people /", 1, 32);
    faulty(h + "people 123z", 3, 32);
    faulty(h + "people 1234z", 1, 32);
    faulty(h + "house 1;", 2, 25);
    faulty(h + "depth 1;", 2, 25);
    faulty(h + "noise loud;", 2, 31);
    faulty(h + "noise : 1000;", 1, 33);
    faulty(h + "noise : 999;", 0, -1);
    faulty(h + "noise : - 1;", 2, 33);
    faulty(h + "noise : 1 +;", 2, 36);
    faulty(h + "noise : 1 2;", 2, 35);
    faulty(h + "noise : (1;", 2, 35);
    faulty(h + "noise : 1);", 2, 34);
    faulty(h + "noise : [1 = 1];", 2, 33);
    faulty(h + "noise : not;", 2, 33);
    faulty(h + "noise : goer + loud * soft - far + depth * draught;", 0, -1);
    faulty(h + "noise : noise;", 2, 33);
    faulty(h + "noise : steps;", 2, 33);
    faulty(h + "noise : past;", 2, 33);
    faulty(h + "noise : far", 2, 36);
    faulty(h + "sleeps : noise * steps + past - depth + draught;", 0, -1);
    faulty(h + "sleeps : goer;", 2, 34);
    faulty(h + "sleeps : loud;", 2, 34);
    faulty(h + "sleeps : soft;", 2, 34);
    faulty(h + "sleeps : far;", 2, 34);
    faulty(h + "sleeps : if 1 then 2 else 3 end;", 2, 39);
    faulty(h + "sleeps : if 1 = 2 = 3 then 2 else 3 end;", 2, 43);
    faulty(h + "sleeps : if 1 = 2 then 3 end;", 2, 50);
    faulty(h + "sleeps : if 1 = 2 then 3 else 4;", 2, 56);
    faulty(h + "sleeps : if (1 = 2) then 3 else 4 end;", 2, 40);
    faulty(h + "sleeps : if [1 = 2] or not 2 > 3 and 3 < 4 then 3 else 4 end * 2;", 0, -1);
  }

  private static void p04Nests() {
    String h = "street 1 house 0 depth 1;";
    faulty(h + "noise:((((((1))))));", 0, -1);
    faulty(h + "noise:(((((((1)))))));", 4, 37);
    faulty(h + "noise:(((((((", 4, 37);
    faulty(h + "noise:((((((*", 2, 37);
    faulty(h + "noise:((((((if", 4, 37);
    faulty(h + "noise:((((((1)+(1)))))*(1));", 0, -1);
    faulty(h + "noise:if not not not not not 1=1 then 1 else 2 end;", 0, -1);
    faulty(h + "noise:if not not not not not not 1=1 then 1 else 2 end;", 4, 54);
    faulty(h + "noise:if not not not not not (1)=1 then 1 else 2 end;", 4, 54);
    faulty(h + "noise:if not not not not not [1=1] then 1 else 2 end;", 4, 54);
    faulty(h + "noise:if [[[[[1=1]]]]] and [[[[[2=2]]]]] then (((((1))))) else (((((2))))) end;", 0, -1);
    faulty(h + "noise:if [[[[[[1=1", 4, 39);
    faulty(h + "noise:if 1=1 then ((((((1", 4, 48);
    faulty(h + "noise:if 1=1 then 1 else 1 end + ((((((1))))));", 0, -1);
  }

  private static void p05() {
    SleepAct x = told("street 3 house 1 depth 9;goer loud 5;goer loud 6 at 1 soft 4;goer loud 7 at 2;goer loud 8 at 3;");
    due(5, "goer(0,0)", x.goer(0, 0), 0);
    due(5, "goer(3,0)", x.goer(3, 0), 3);
    due(5, "goer(1,1)", x.goer(1, 1), 6);
    due(5, "goer(1,2)", x.goer(1, 2), 4);
    due(5, "goer(0,2)", x.goer(0, 2), 0);
    due(5, "goer(0,3) to the house", x.goer(0, 3), 5);
    due(5, "goer(1,3) behind it", x.goer(1, 3), 5);
    due(5, "goer(2,3) behind the last", x.goer(2, 3), 5);
    due(5, "goer(3,3) past", x.goer(3, 3), -1);
    due(5, "goer(4,0)", x.goer(4, 0), -2);
    due(5, "goer(-1,0)", x.goer(-1, 0), -2);
    due(5, "goer(0,4)", x.goer(0, 4), -2);
    due(5, "goer(0,-1)", x.goer(0, -1), -2);
    due(5, "goer(3,4)", x.goer(3, 4), -2);
    x = told("street 6 house 5 depth 9;goer loud 2;");
    due(5, "loud less far, 0 at least", x.goer(0, 3), 0);
  }

  private static void noise(String law, int want) {
    SleepAct x = told("street 4 house 3 depth 8;draught 7;goer loud 1;goer loud 5 soft 2 at 1;noise:" + law + ";");
    due(5, "noise by " + law, x.goer(1, 3), want);
  }

  private static void p05Laws() {
    noise("goer", 1);
    noise("loud", 5);
    noise("soft", 2);
    noise("far", 1);
    noise("draught", 7);
    noise("depth", 8);
    noise("0-1", 0);
    noise("100", 99);
    noise("1+2*3", 7);
    noise("9-3-2", 4);
    noise("(9-3)*(2+1)", 18);
    noise("999*999*999-999*999-999-999", 1);
    noise("999*999*2-999*999-990-990", 19);
    noise("0-999*999*2+999*999+999+999+52", 51);
    noise("(0-999)*999*999+999*999+999+999+52", 51);
    noise("(0-999)*999*(0-999)-999*999-999-990", 10);
    noise("0-999*999-999*999+999*999+999+999+45", 44);
    noise("999*999+999*999-999*999-999-999+45", 46);
    noise("if 1=1 then 4 else 5 end", 4);
    noise("if 1=2 then 4 else 5 end", 5);
    noise("if 1<2 then 4 else 5 end", 4);
    noise("if 2<2 then 4 else 5 end", 5);
    noise("if 3>2 then 4 else 5 end", 4);
    noise("if 2>2 then 4 else 5 end", 5);
    noise("if 0-5<0-4 then 4 else 5 end", 4);
    noise("if not 1=1 then 4 else 5 end", 5);
    noise("if not 1=1 or 1=1 then 4 else 5 end", 4);
    noise("if not [1=1 or 1=1] then 4 else 5 end", 5);
    noise("if 1=1 or 1=1 and 1=2 then 4 else 5 end", 4);
    noise("if [1=1 or 1=1] and 1=2 then 4 else 5 end", 5);
    noise("if not not loud>soft then loud*10+soft else 5 end+1", 53);
    noise("2*if 1=1 then 2 else 3 end+1", 5);
    noise("if if 1=1 then 0 else 1 end=0 then 7 else 8 end", 7);
    String deep = "2";
    for (int i = 0; i < 6; i++) deep = "if 1=2 or 1=1 and 3=1+1*" + deep + " then 2 else 0 end";
    noise("1+1*" + deep, 3);
    noise("draught+(loud-(soft-(goer-(loud-(soft-(depth-far))))))", 7 + 5 - (2 - (1 - (5 - (2 - 7)))));
  }

  private static void p06p07() {
    SleepAct x = told("street 2 house 0 depth 4;goer loud 3 at 1;goer loud 1;goer loud 9 at 2;");
    due(6, "by(0)", x.by(0), 5);
    due(6, "by(1)", x.by(1), 3);
    due(6, "by(2)", x.by(2), 5);
    due(6, "by(3)", x.by(3), 3);
    due(6, "by(4)", x.by(4), -5);
    due(6, "by(8)", x.by(8), -3);
    due(6, "by(12)", x.by(12), -3);
    due(6, "by(-1)", x.by(-1), -3);
    due(6, "nothing is done", x.count(6), 0);
    due(7, "hour(8)", x.hour(8), -11);
    due(7, "hour(-1)", x.hour(-1), -11);
    due(7, "hour(5)", x.hour(5), -12);
    due(7, "hour(2)", x.hour(2), 5);
    due(7, "count(6)", x.count(6), 1);
    due(7, "its cell", x.goer(1, 0), 1);
    due(7, "hour(3)", x.hour(3), 4);
    due(7, "who is past", x.count(4), 7);
    due(7, "hour(1)", x.hour(1), -12);
    x = told("street 2 house 0 depth 1;goer loud 9;goer loud 1 at 2;");
    due(7, "hour(1) wakes it", x.hour(1), 0);
    due(7, "hour(0) behind", x.hour(0), -13);
    due(7, "hour(2) behind", x.hour(2), -12);
    due(7, "hour(4) behind", x.hour(4), -11);
    due(7, "count(6)", x.count(6), 1);
    due(6, "by(0) behind", x.by(0), -5);
    due(6, "by(4) behind", x.by(4), -3);
    due(5, "goer(0,3) when it is awake", x.goer(0, 3), 7);
    x = told("street 2 house 0 depth 9;goer loud 0;goer loud 0 at 1;draught 2;sleeps: steps*3+past;");
    due(7, "9 at most", told("street 1 house 0 depth 9;sleeps: 10;").hour(0), 9);
    due(7, "steps and past", x.hour(3), 7);
    due(7, "steps and past", x.hour(1), 5);
    x = told("street 2 house 0 depth 5;goer loud 0;goer loud 0;noise: 99;sleeps: noise-depth-190+draught;draught 2;");
    due(7, "noise of all together, the depth ahead", x.hour(3), 5);
    due(7, "it wakes below 0", x.hour(1), 0);
  }

  private static void p08() {
    SleepAct x = told("street 1 house 0 depth 3;sleeps: depth-1;");
    due(8, "hours(0)", x.hours(0), -11);
    due(8, "hours(100)", x.hours(100), -11);
    due(8, "hours(-5)", x.hours(-5), -11);
    due(8, "hours(2)", x.hours(2), 1);
    due(8, "hours(99)", x.hours(99), 0);
    due(8, "count(6)", x.count(6), 3);
    due(8, "hours(1) behind", x.hours(1), -13);
    due(8, "hours(0) behind", x.hours(0), -11);
    due(8, "undone as a whole", x.undo(1), 1);
    due(8, "count(3)", x.count(3), 1);
    due(8, "count(6)", x.count(6), 2);
    x = new SleepAct();
    due(8, "hours(99)", x.hours(99), 9);
    due(8, "count(6)", x.count(6), 99);
  }

  private static void p09() {
    SleepAct x = told("street 1 house 0 depth 3;people 4;");
    due(9, "hint(0,1,0)", x.hint(0, 1, 0), 2);
    due(9, "hint(1,0,1)", x.hint(1, 0, 1), 1);
    due(9, "instead of the other one", x.hints(0), 0);
    due(9, "hint(0,2,1)", x.hint(0, 2, 1), 0);
    due(9, "hint(0,1,2)", x.hint(0, 1, 2), -11);
    due(9, "hint(0,1,-1)", x.hint(0, 1, -1), -11);
    due(9, "hint(0,4,1)", x.hint(0, 4, 1), -11);
    due(9, "hint(-1,0,1)", x.hint(-1, 0, 1), -11);
    due(9, "hint(2,2,1)", x.hint(2, 2, 1), -11);
    due(9, "count(7)", x.count(7), 3);
    due(9, "undo(1)", x.undo(1), 2);
    due(9, "ways()", x.ways(), 1);
    x = told("street 1 house 0 depth 1;people 2;sleeps: 0;");
    x.hour(0);
    due(9, "hint when it is awake", x.hint(0, 1, 0), 0);
  }

  private static void p10p11() {
    SleepAct x = told("street 1 house 0 depth 3;draught 2;");
    due(10, "draught(9)", x.draught(9), 2);
    due(10, "draught(0)", x.draught(0), 9);
    due(10, "draught(10)", x.draught(10), -11);
    due(10, "draught(-1)", x.draught(-1), -11);
    due(10, "count(5)", x.count(5), 0);
    due(11, "undo(0)", x.undo(0), -3);
    due(11, "undo(-1)", x.undo(-1), -3);
    due(11, "undo(3)", x.undo(3), -3);
    due(11, "undo(1)", x.undo(1), 1);
    due(11, "count(5)", x.count(5), 9);
    for (int i = 0; i < 12; i++) x.draught(i % 10);
    due(11, "count(7)", x.count(7), 10);
    due(11, "undo(11)", x.undo(11), -3);
    due(11, "undo(10)", x.undo(10), 0);
    due(11, "eldest are forgotten", x.count(5), 1);
    x = told("street 2 house 0 depth 6;people 3;goer loud 3;");
    x.hour(1);
    x.hint(0, 1, 0);
    x.draught(5);
    x.hours(2);
    due(11, "undo(4)", x.undo(4), 0);
    due(11, "goer", x.goer(0, 0), 0);
    due(11, "depth", x.count(3), 6);
    due(11, "hints", x.hints(0), 0);
    due(11, "draught", x.count(5), 0);
    due(11, "hours", x.count(6), 0);
    due(10, "draught when it is awake", awake().draught(3), 0);
  }

  private static SleepAct awake() {
    SleepAct x = told("street 1 house 0 depth 1;goer loud 1;goer loud 1 at 1;sleeps: 0;");
    x.hour(0);
    return x;
  }

  private static void p12p13() {
    SleepAct x = told("street 2 house 1 depth 4;goer loud 3;goer loud 0;people 3;");
    due(12, "judge(0,0)", x.judge(0, 0), -6);
    due(12, "judge(4,0)", x.judge(4, 0), -2);
    due(12, "judge(-1,0)", x.judge(-1, 0), -2);
    due(12, "judge(0,4)", x.judge(0, 4), -2);
    due(12, "judge(0,-1)", x.judge(0, -1), -2);
    due(13, "perform(4)", x.perform(4), -2);
    due(13, "perform(-1)", x.perform(-1), -2);
    due(13, "perform(3)", x.perform(3), -6);
    judged(x, new long[] {}, -1, 0, 4, 0);
    judged(x, new long[] {1, 0, 100, 109, 201, 312, 2, 2}, -1, 0, 4, 2);
    judged(x, new long[] {2, 2, 2}, 2, 2, 6, 2);
    judged(x, new long[] {1, 1}, 1, 3, 0, 0, 1);
    judged(x, new long[] {4}, 0, 1, 4, 0);
    judged(x, new long[] {0, 16}, 1, 1, 5, 0);
    judged(x, new long[] {-1}, 0, 1, 4, 0);
    judged(x, new long[] {99}, 0, 1, 4, 0);
    judged(x, new long[] {110}, 0, 1, 4, 0);
    judged(x, new long[] {199}, 0, 1, 4, 0);
    judged(x, new long[] {200}, 0, 1, 4, 0);
    judged(x, new long[] {203}, 0, 1, 4, 0);
    judged(x, new long[] {321, 330}, 1, 1, 4, 0);
    judged(x, new long[] {400}, 0, 1, 4, 0);
    judged(x, new long[] {1L << 32}, 0, 1, 4, 0);
    due(12, "nothing was done", x.count(6) + x.count(7), 0);
    tray(x, 2, 1, 107, 210, 302, 3, 0);
    due(13, "perform", x.perform(2), 5);
    due(13, "depth", x.count(3), 0);
    due(13, "draught", x.count(5), 7);
    due(13, "hints", x.hints(1) * 10 + x.hints(0), 11);
    due(13, "hours", x.count(6), 2);
    due(13, "who is past", x.count(4), 1);
    due(13, "one call", x.count(7), 1);
    tray(x, 2, 0);
    due(13, "perform that can't be", x.perform(2), 0);
    due(13, "it did nothing", x.count(7), 1);
    due(13, "undo", x.undo(1), 0);
    due(13, "hours", x.count(6), 0);
    due(13, "hints", x.hints(1) + x.hints(0), 0);
    tray(x, 1);
    due(13, "perform of nothing", x.perform(1), 0);
    due(13, "it did nothing", x.count(7), 0);
    tray(x, 1, 0, 4);
    due(13, "perform of one", x.perform(1), 1);
    due(13, "one call", x.count(7), 1);
    due(13, "depth", x.count(3), 5);
    x = told("street 2 house 1 depth 4;goer loud 0;goer loud 0;goer loud 0;goer loud 0;");
    tray(x, 1, 15, 15, 15);
    due(13, "all step", x.perform(1), 2);
    due(13, "who is past", x.count(4), 15);
    due(12, "all are past", x.judge(1, 1), 2);
  }

  /** A street where goer 0 stepping makes noise 3 at the house, 2 behind it. */
  private static void judged(SleepAct x, long[] v, int... want) {
    if (want.length > 4) {
      x = told("street 6 house 1 depth 1;goer loud 3;goer loud 0;people 3;");
    }
    tray(x, 1, v);
    for (int what = 0; what < 4; what++) due(12, "judge of " + java.util.Arrays.toString(v) + ", " + what, x.judge(1, what), want[what]);
  }

  private static void p14() {
    String text = "street 6 house 0 depth 9;goer loud 2;goer loud 1;goer loud 0;people 5;";
    for (int seed : new int[] {0, 1, -1, 77, Integer.MIN_VALUE, 123456789}) {
      SleepAct x = told(text);
      SleepAct y = told(text);
      int z = seed;
      int could = 0;
      for (int i = 0; i < 40; i++) {
        z = 1103515245 * z + 12345;
        int kind = (z >>> 16) % 6;
        if (kind < 2) {
          could += y.hour(0) >= 0 ? 1 : 0;
        } else if (kind < 4) {
          z = 1103515245 * z + 12345;
          could += y.hour(1 << (z >>> 16) % 4) >= 0 ? 1 : 0;
        } else if (kind == 4) {
          z = 1103515245 * z + 12345;
          could += y.draught((z >>> 16) % 10) >= 0 ? 1 : 0;
        } else {
          z = 1103515245 * z + 12345;
          int p = (z >>> 16) % 8;
          z = 1103515245 * z + 12345;
          could += y.hint(p, (z >>> 16) % 8, 0) >= 0 ? 1 : 0;
        }
      }
      due(14, "night(" + seed + ", 40)", x.night(seed, 40), could);
      for (int what = 3; what < 7; what++) due(14, "count(" + what + ")", x.count(what), y.count(what));
      for (int p = 0; p < 5; p++) due(14, "first(" + p + ")", x.first(p), y.first(p));
      due(14, "hints", x.hints(0), y.hints(0));
      due(14, "undone as a whole", x.undo(1), 0);
      due(14, "hours", x.count(6), 0);
    }
    SleepAct x = new SleepAct();
    due(14, "night(1,0)", x.night(1, 0), -3);
    due(14, "night(1,41)", x.night(1, 41), -3);
    due(14, "night(1,-1)", x.night(1, -1), -3);
    // x is 12345 at first, so DRAW 0: an HOUR, nobody STEPS
    due(14, "night(0,1)", x.night(0, 1), 1);
    due(14, "hours", x.count(6), 1);
    due(14, "undoing", x.count(7), 1);
    SleepAct asleepNoMore = awake();
    due(14, "a night in which nothing can be", asleepNoMore.night(0, 1), 0);
    due(14, "undoing", asleepNoMore.count(7), 1);
  }

  private static void p15p16() {
    SleepAct x = told("street 2 house 0 depth 3;goer loud 3;goer loud 4 at 1;goer loud 9 at 2;");
    // goer 0: noise 2, then 1; goer 1: noise 2
    due(15, "soonest(0)", x.soonest(0), 0);
    due(15, "soonest(4)", x.soonest(4), 0);
    due(15, "soonest(2)", x.soonest(2), 1);
    due(15, "soonest(1)", x.soonest(1), 3);
    due(16, "way(1,0)", x.way(1, 0), 0);
    due(16, "way(1,1)", x.way(1, 1), 1);
    due(16, "way(1,2)", x.way(1, 2), 1);
    due(16, "way(1,3)", x.way(1, 3), -1);
    due(15, "soonest(3)", x.soonest(3), 5);
    int[] all = {0, 0, 0, 1, 3};
    for (int i = 0; i < 5; i++) due(16, "way(7," + i + ")", x.way(7, i), all[i]);
    due(16, "way(7,5)", x.way(7, 5), -1);
    due(16, "way(0,0)", x.way(0, 0), -1);
    due(15, "soonest(8)", x.soonest(8), -3);
    due(15, "soonest(-1)", x.soonest(-1), -3);
    due(16, "way(8,0)", x.way(8, 0), -3);
    due(16, "way(1,-1)", x.way(1, -1), -3);
    due(16, "way(1,maximum)", x.way(1, Integer.MAX_VALUE), -1);
    x = told("street 1 house 0 depth 9;goer loud 9;goer loud 0;noise:loud*2;");
    due(15, "soonest of what can't be", x.soonest(1), -1);
    due(16, "way of what can't be", x.way(1, 0), -1);
    due(15, "soonest(2)", x.soonest(2), 1);
    due(15, "soonest(3)", x.soonest(3), -1);
    x = awake();
    due(15, "soonest(0) when it is awake", x.soonest(0), -1);
    due(15, "soonest(2) when it is awake", x.soonest(2), -1);
    due(15, "soonest(4) when it is awake", x.soonest(4), -3);
    due(16, "way(0,0) when it is awake", x.way(0, 0), -1);
  }

  private static void p17() {
    SleepAct x = told("street 2 house 0 depth 9;goer loud 0;goer loud 0;");
    due(17, "rows(0,0)", x.rows(0, 0), 1);
    due(17, "rows(1,0)", x.rows(1, 0), 0);
    // each goer steps by itself: of n hours those two in which it does, or none, or one
    due(17, "rows(1,2)", x.rows(1, 2), 4);
    due(17, "rows(3,2)", x.rows(3, 2), 1);
    due(17, "rows(0,2)", x.rows(0, 2), 16);
    due(17, "rows(3,8)", x.rows(3, 8), 28 * 28);
    due(17, "rows(1,8)", x.rows(1, 8), 28 * (28 + 8 + 1));
    due(17, "rows(0,8)", x.rows(0, 8), 37 * 37);
    due(17, "rows(0,9)", x.rows(0, 9), -3);
    due(17, "rows(0,-1)", x.rows(0, -1), -3);
    due(17, "rows(4,1)", x.rows(4, 1), -3);
    due(17, "rows(-1,1)", x.rows(-1, 1), -3);
    x = told("street 6 house 0 depth 9;goer loud 0;goer loud 0;goer loud 0;goer loud 0;");
    long one = 0;
    for (int k = 0; k <= 6; k++) one += new int[] {1, 8, 28, 56, 70, 56, 28}[k];
    due(17, "rows(0,8), many", x.rows(0, 8), one * one * one * one);
    due(17, "rows(15,8)", x.rows(15, 8), 28L * 28 * 28 * 28);
    x = told("street 1 house 0 depth 2;goer loud 3;");
    // noise 2 of 2, 3, .. : it must sleep an hour ahead
    due(17, "rows(1,1)", x.rows(1, 1), 0);
    due(17, "rows(1,2)", x.rows(1, 2), 1);
    due(17, "rows(0,2)", x.rows(0, 2), 2);
    due(17, "rows(1,3)", x.rows(1, 3), 2);
    x = awake();
    due(17, "rows(0,0) when it is awake", x.rows(0, 0), 0);
    due(17, "rows(0,1) when it is awake", x.rows(0, 1), 0);
  }

  private static void p18to20() {
    SleepAct x = told("street 1 house 0 depth 5;goer loud 0;goer loud 0;goer loud 9;noise:if goer=2 then 9 else 0 end;sleeps:if past=2 then depth-3 else depth-noise end;");
    due(18, "can()", x.can(), 7);
    due(19, "most(0)", x.most(0), 3);
    due(19, "most(1)", x.most(1), 7);
    due(20, "deepest()", x.deepest(), 5);
    x = told("street 1 house 0 depth 5;goer loud 0;goer loud 0;goer loud 0;noise:goer;sleeps:if past>1 then 0 else if noise=0 then depth else depth+2 end end;");
    due(18, "can()", x.can(), 7);
    due(19, "most(0)", x.most(0), 1);
    due(19, "most(1), of like ones the least", x.most(1), 1);
    due(20, "deepest()", x.deepest(), 7);
    due(19, "most(2)", x.most(2), -2);
    due(19, "most(-1)", x.most(-1), -2);
    x = told("street 2 house 0 depth 5;goer loud 0;goer loud 0 at 1;goer loud 0 at 1;noise:0;sleeps:if past>1 then 0 else depth end;");
    due(19, "the least set comes later", x.most(1), 1);
    x = told("street 1 house 0 depth 5;goer loud 9;goer loud 9;noise:draught*3;");
    due(18, "can() with one draught", x.can(), 3);
    due(20, "deepest() with one draught", x.deepest(), 9);
    x.draught(3);
    due(18, "can() with another one", x.can(), 0);
    due(19, "most(0) with another one", x.most(0), 0);
    due(22, "stands() with another one", x.stands(), 5 + 3);
    x.draught(2);
    // noise 6 each: two hours till 7, a step to 1, six hours, a step
    due(15, "soonest(3) with another one", x.soonest(3), 10);
    due(17, "rows(1,3) with another one", x.rows(1, 3), 1);
    due(3, "another street, all where it was", read(x, "street 1 house 0 depth 5;goer loud 9;goer loud 9;noise:0;draught 2;"), 5);
    due(15, "soonest(3) there", x.soonest(3), 1);
    due(18, "can() there", x.can(), 3);
    x = told("street 1 house 0 depth 5;goer loud 9 at 1;goer loud 9;sleeps:depth-noise-1;");
    due(18, "can(), one is past now", x.can(), 1);
    due(19, "most(1)", x.most(1), 1);
    due(20, "deepest(), now", x.deepest(), 5);
    x = awake();
    due(18, "can() when it is awake", x.can(), 0);
    due(19, "most(0) when it is awake", x.most(0), -1);
    due(19, "most(1) when it is awake", x.most(1), -1);
    due(19, "most(2) when it is awake", x.most(2), -2);
    due(20, "deepest() when it is awake", x.deepest(), 0);
  }

  private static void p21p22() {
    SleepAct x = told("street 3 house 1 depth 6;goer loud 3;goer loud 2;goer loud 4;goer loud 1 at 3;");
    due(21, "atOnce()", x.atOnce(), 3);
    x.hour(2);
    due(21, "atOnce(), of like ones the least", x.atOnce(), 1);
    x = told("street 1 house 0 depth 6;goer loud 3;sleeps: 0;");
    due(21, "it wakes by each set", x.atOnce(), -1);
    x = told("street 1 house 0 depth 6;goer loud 3;sleeps: 1-steps;");
    due(21, "nobody", x.atOnce(), 0);
    x = told("street 1 house 0 depth 6;goer loud 1;goer loud 2;sleeps: steps;noise:0;");
    due(21, "all", x.atOnce(), 3);
    due(21, "when it is awake", awake().atOnce(), -5);
    due(22, "when it is awake", awake().stands(), 1);
    x = told("street 2 house 0 depth 8;goer loud 0;");
    // cells 0 to 2 with depths 8, 9, but for cells 1 and 2 with depth 8
    due(22, "stands()", x.stands(), 4);
    x = told("street 1 house 0 depth 2;goer loud 9;noise:9;");
    // 2 to 9 in the cell, past: awake
    due(22, "stands()", x.stands(), 9);
  }

  private static void p23to25() {
    int[] ways = {1, 1, 1, 3, 3, 15, 15, 105, 105};
    for (int n = 0; n <= 8; n++) {
      SleepAct x = told("street 1 house 0 depth 2;people " + n + ";");
      due(23, "ways() of " + n, x.ways(), ways[n]);
      for (int p = 0; p < n; p++) due(24, "first of " + n, x.first(p), p == n - 1 && n % 2 == 1 ? -1 : p ^ 1);
      due(24, "first(" + n + ")", x.first(n), -2);
      due(24, "first(-1)", x.first(-1), -2);
      due(25, "surely(" + n + ")", x.surely(n), -2);
      due(25, "surely(-1)", x.surely(-1), -2);
    }
    SleepAct x = told("street 1 house 0 depth 2;people 5;not 0 1;not 0 2;not 0 3;not 0 4;");
    due(23, "one is left for sure", x.ways(), 3);
    due(24, "first(0)", x.first(0), -1);
    due(24, "first(1)", x.first(1), 2);
    due(25, "surely(0), left in all", x.surely(0), -1);
    due(23, "hint", x.hint(1, 2, 0), 2);
    due(24, "first(1)", x.first(1), 3);
    due(23, "hint", x.hint(1, 3, 0), 1);
    due(25, "surely(1)", x.surely(1), 4);
    due(25, "surely(2)", x.surely(2), 3);
    due(23, "hint", x.hint(4, 1, 0), 0);
    due(24, "first(1) of none", x.first(1), -1);
    due(25, "surely(1) of none", x.surely(1), -1);
    x = told("street 1 house 0 depth 2;people 4;not 0 1;bound 2 3;");
    due(23, "what can't be", x.ways(), 0);
    x = told("street 1 house 0 depth 2;people 3;bound 2 1;bound 1 0;");
    due(23, "one bound twice", x.ways(), 0);
    x = told("street 1 house 0 depth 2;people 2;");
    due(25, "surely(0)", x.surely(0), 1);
    x = told("street 1 house 0 depth 2;people 3;not 0 1;");
    due(24, "left behind all", x.first(0), 2);
    due(25, "not sure", x.surely(2), -1);
  }

  private static void p26to28() {
    SleepAct x = told("street 1 house 0 depth 2;people 6;not 0 1;");
    due(26, "odds(0,1,0)", x.odds(0, 1, 0), 0);
    due(26, "odds(0,1,1)", x.odds(0, 1, 1), 1);
    due(26, "odds(0,2,0)", x.odds(0, 2, 0), 1);
    due(26, "odds(2,0,1)", x.odds(2, 0, 1), 4);
    due(26, "odds(2,3,0)", x.odds(2, 3, 0), 1);
    due(26, "odds(2,3,1)", x.odds(2, 3, 1), 6);
    due(26, "odds(2,2,0)", x.odds(2, 2, 0), -2);
    due(26, "odds(6,2,0)", x.odds(6, 2, 0), -2);
    due(26, "odds(0,-1,0)", x.odds(0, -1, 0), -2);
    due(26, "odds(0,1,2)", x.odds(0, 1, 2), -2);
    due(27, "clause()", x.clause(), 2);
    due(28, "hints(0)", x.hints(0), 1);
    due(28, "hints(1)", x.hints(1), 0);
    due(28, "hints(2)", x.hints(2), -2);
    due(28, "hints(-1)", x.hints(-1), -2);
    x.hint(0, 2, 1);
    x.hint(4, 2, 0);
    due(27, "clause(), the first halves", x.clause(), 13);
    due(28, "hints(0)", x.hints(0), 2);
    due(28, "hints(1)", x.hints(1), 1);
    x.hint(4, 2, 1);
    due(28, "the later one instead", x.hints(0) * 10 + x.hints(1), 12);
    due(26, "odds without ways", x.odds(0, 1, 0), -1);
    due(26, "odds without ways, one and the same", x.odds(1, 1, 0), -2);
    due(27, "clause without ways", x.clause(), -1);
    x = told("street 1 house 0 depth 2;people 1;");
    due(27, "clause of one", x.clause(), -1);
    x = told("street 1 house 0 depth 2;people 2;");
    due(27, "clause of two", x.clause(), 1);
    due(26, "odds of two", x.odds(0, 1, 0) * 10 + x.odds(1, 0, 1), 11);
  }

  private static void p29p30() {
    SleepAct x = told("street 1 house 0 depth 3;goer loud 1;goer loud 1 at 1;sleeps:if steps=0 then depth+if draught>4 then 1 else 0 end else draught end;");
    due(29, "draughts(0)", x.draughts(0), -6);
    due(29, "draughts(4)", x.draughts(4), -2);
    due(29, "draughts(-1)", x.draughts(-1), -2);
    due(30, "attempt(0)", x.attempt(0), -6);
    due(30, "attempt(4)", x.attempt(4), -2);
    tray(x, 0);
    due(29, "of none", x.draughts(0), -4);
    due(30, "of none", x.attempt(0), -4);
    tray(x, 0, 0, 0, 0, 0, 0, 0, 0, 0, 0, 0, 0);
    due(29, "of eleven", x.draughts(0), -4);
    tray(x, 0, 3, 3, 3, 3, 3, 3, 3, 3, 3, 3);
    due(29, "of ten", x.draughts(0), 31);
    due(30, "attempt", x.attempt(0), 1);
    tray(x, 0, 4, 5);
    due(29, "the others", x.draughts(0), 992);
    due(30, "attempt", x.attempt(0), 1);
    tray(x, 0, 4, 4);
    due(29, "none", x.draughts(0), 0);
    due(30, "none", x.attempt(0), -1);
    tray(x, 0, 3, 10);
    due(29, "10", x.draughts(0), -3);
    due(30, "10", x.attempt(0), -3);
    tray(x, 0, -1);
    due(29, "-1", x.draughts(0), -3);
    x.hours(1);
    due(29, "nothing was done", x.count(6), 1);
    x = told("street 1 house 0 depth 1;goer loud 1;sleeps:if depth=1 then draught-7 else depth end;");
    tray(x, 0, 0, 0, 0);
    due(29, "it stays awake", x.draughts(0), 255);
    due(30, "all alike: the first set", x.attempt(0), 0);
    tray(x, 0, 1, 1);
    due(29, "1, 1", x.draughts(0), 256);
    tray(x, 0, 2, 2);
    due(29, "2, 2", x.draughts(0), 512);
    x = told("street 1 house 0 depth 1;sleeps:if depth=1 then 0 else 5 end;");
    tray(x, 0, 0, 0);
    due(29, "it stays awake whatever the law", x.draughts(0), 1023);
    due(30, "all ten alike", x.attempt(0), 0);
    tray(x, 0, 0, 5);
    due(29, "it stays awake whatever the law", x.draughts(0), 0);
    x = told("street 1 house 0 depth 1;goer loud 1;sleeps:if steps=2 then draught else 1 end;");
    tray(x, 0, 1);
    due(30, "no other sets", x.attempt(0), 0);
    x = told("street 1 house 0 depth 1;goer loud 1;goer loud 1;goer loud 1;noise:goer;"
        + "sleeps:if steps=0 then 1 else if noise=0 then if draught=0 then 1 else if draught=9 then 1 else 2 end end"
        + " else if noise=1 then if draught=0 then 1 else if draught=9 then 2 else if draught=1 then 3 else 4 end end end else 5 end end end;");
    tray(x, 0, 1);
    due(30, "8 alike, 7 alike", x.attempt(0), 2);
    x = awake();
    tray(x, 0, 0, 0);
    due(29, "when it is awake", x.draughts(0), 1023);
    due(30, "when it is awake", x.attempt(0), -5);
    tray(x, 0, 1);
    due(29, "when it is awake", x.draughts(0), 0);
    due(30, "when it is awake, ahead of NONE", x.attempt(0), -5);
    tray(x, 0, 11);
    due(30, "when it is awake, a number", x.attempt(0), -3);
    x = told("street 2 house 0 depth 5;goer loud 1;goer loud 1;goer loud 1 at 2;noise:if goer=1 then draught*4 else draught end;");
    tray(x, 0, 6);
    due(29, "all", x.draughts(0), 1023);
    // nobody: 10 alike; goer 0: 0, 1 .. 4, then 0 by 5 to 9; goer 1: 6, 1, then 0 by 2 to 9
    due(30, "the greatest number is least", x.attempt(0), 1);
  }

  private static void p31p32() {
    SleepAct x = told("street 2 house 0 depth 4;goer loud 0;goer loud 0;sleeps:depth-1;");
    // four steps, each one less deep: the fourth wakes it, by the one who is on second
    due(31, "daring(1)", x.daring(1), 1);
    due(31, "daring(2)", x.daring(2), 1);
    due(31, "daring(0), they rest by turns", x.daring(0), 1);
    due(31, "daring(3)", x.daring(3), 1);
    due(32, "dares(1)", x.dares(1), 0);
    due(32, "dares(2)", x.dares(2), 1);
    due(32, "dares(3)", x.dares(3), 0);
    due(32, "dares(0)", x.dares(0), -1);
    due(31, "daring(4)", x.daring(4), -3);
    due(31, "daring(-1)", x.daring(-1), -3);
    due(32, "dares(4)", x.dares(4), -3);
    x.hour(1);
    due(31, "three left", x.daring(1), -1);
    x = told("street 1 house 0 depth 3;goer loud 0;goer loud 3;goer loud 0;goer loud 1;noise:loud;sleeps:depth-noise;");
    // 0 and 1 dare 2 and 3: who lets 1 step loses; 1 must step in the end
    due(31, "daring(3)", x.daring(3), -1);
    due(32, "dares(3), the first of like ones", x.dares(3), 0);
    due(31, "daring(12)", x.daring(12), 1);
    due(32, "dares(12), the first of like ones", x.dares(12), 2);
    x = told("street 1 house 0 depth 3;goer loud 3;goer loud 0;goer loud 3;noise:loud;sleeps:depth-noise;");
    due(31, "daring(3)", x.daring(3), 1);
    due(32, "dares(3): not the one that wakes it", x.dares(3), 1);
    x = told("street 1 house 0 depth 3;goer loud 0 at 1;goer loud 0 at 1;sleeps:0;");
    due(31, "all are past", x.daring(1), 0);
    due(32, "all are past", x.dares(1), -1);
    x = told("street 1 house 0 depth 3;goer loud 0;goer loud 0 at 1;sleeps:if past=2 then 0 else depth end;");
    due(31, "the last step wakes it", x.daring(1), -1);
    due(31, "the other one's last step wakes it", x.daring(2), 1);
    due(32, "its own are past", x.dares(2), -1);
    x = told("street 1 house 0 depth 5;goer loud 0;goer loud 0;sleeps:depth-draught;");
    due(31, "with one draught", x.daring(1), 0);
    x.draught(3);
    due(31, "with another one", x.daring(1), 1);
    x.draught(5);
    due(31, "with a third one", x.daring(1), -1);
    due(31, "with a third one, the other side", x.daring(2), -1);
    read(x, "street 1 house 0 depth 5;goer loud 0;goer loud 0;sleeps:depth-3;draught 5;");
    due(31, "in another street", x.daring(2), 1);
    due(31, "in another street", x.daring(1), 1);
    x = awake();
    due(31, "when it is awake", x.daring(0), -5);
    due(32, "when it is awake", x.dares(0), -5);
    due(31, "when it is awake, others", x.daring(4), -3);
    due(32, "when it is awake, others", x.dares(4), -3);
  }

  private static void p33p34() {
    SleepAct x = told("street 2 house 0 depth 3;goer loud 2;goer loud 0 at 2;cart 4 noise 2;");
    due(33, "chance(0,0)", x.chance(0, 0), -6);
    due(33, "chance(4,0)", x.chance(4, 0), -2);
    due(33, "chance(0,2)", x.chance(0, 2), -2);
    due(34, "mean(0,-1)", x.mean(0, -1), -2);
    due(34, "mean(-1,0)", x.mean(-1, 0), -2);
    due(34, "mean(3,0)", x.mean(3, 0), -6);
    tray(x, 0);
    due(33, "of none", x.chance(0, 0), -4);
    tray(x, 0, 0, 0, 0, 0, 0, 0, 0);
    due(34, "of seven", x.mean(0, 0), -4);
    tray(x, 0, 0, 4);
    due(33, "no set", x.chance(0, 0), -3);
    tray(x, 0, 2, -1);
    due(33, "no set, ahead of one that is past", x.chance(0, 0), -3);
    tray(x, 0, 2);
    due(33, "one is past", x.chance(0, 0), -5);
    due(34, "one is past", x.mean(0, 1), -5);
    tray(x, 0, 1, 1, 1);
    due(33, "one would be past", x.chance(0, 0), -5);
    // depth 3: noise 1, 2 with 6 in 10, awake else; then noise 0: 3 with 6 in 10, awake else
    tray(x, 0, 1);
    due(33, "one step", x.chance(0, 0), 3);
    due(33, "one step", x.chance(0, 1), 5);
    due(34, "one step", x.mean(0, 0), 6);
    due(34, "one step", x.mean(0, 1), 5);
    tray(x, 0, 1, 1);
    due(33, "two steps", x.chance(0, 0), 9);
    due(33, "two steps", x.chance(0, 1), 25);
    due(34, "two steps", x.mean(0, 0), 27);
    due(34, "two steps", x.mean(0, 1), 25);
    // nobody steps: 4 with 6, 1 with 4; then 5 or 2, 2 or awake
    tray(x, 0, 0, 0);
    due(33, "nobody, two hours", x.chance(0, 0), 21);
    due(33, "nobody, two hours", x.chance(0, 1), 25);
    due(34, "nobody, two hours", x.mean(0, 0), 69);
    due(34, "nobody, two hours", x.mean(0, 1), 25);
    due(33, "nothing was done", x.count(6), 0);
    x = told("street 6 house 0 depth 9;goer loud 0;cart 3 noise 0;");
    tray(x, 1, 1, 1, 1, 1, 1, 1);
    due(33, "surely", x.chance(1, 0) * 10 + x.chance(1, 1), 11);
    due(34, "surely", x.mean(1, 0) * 10 + x.mean(1, 1), 91);
    x = awake();
    tray(x, 0, 1);
    due(33, "when it is awake", x.chance(0, 0) * 10 + x.chance(0, 1), 1);
    due(34, "when it is awake", x.mean(0, 0) * 10 + x.mean(0, 1), 1);
    tray(x, 0, 1, 1);
    due(33, "as if it never woke", x.chance(0, 0), -5);
    x = told("street 1 house 0 depth 9;cart 1 noise 9;");
    tray(x, 0, 0, 0, 0, 0, 0, 0);
    due(33, "six hours", x.chance(0, 0), 531441);
    due(33, "six hours", x.chance(0, 1), 1000000);
  }

  private static void p35to37() {
    SleepAct x = told("street 2 house 0 depth 3;goer loud 3;goer loud 0 at 1;noise:loud-far;");
    due(35, "numbers(0,0,3)", x.numbers(0, 0, 3), 0);
    due(35, "numbers(4,0,3)", x.numbers(4, 0, 3), -2);
    due(35, "numbers(-1,0,3)", x.numbers(-1, 0, 3), -2);
    due(35, "numbers(0,4,3)", x.numbers(0, 4, 3), -2);
    due(35, "numbers(0,-1,41)", x.numbers(0, -1, 41), -2);
    due(36, "write(0,0,127)", x.write(0, 0, 127), 127);
    due(35, "numbers(0,3,41)", x.numbers(0, 3, 41), -3);
    due(35, "numbers(0,3,-1)", x.numbers(0, 3, -1), -3);
    due(36, "the tray stays", x.write(0, 2, 511), -1);
    due(36, "write(0,3,1)", x.write(0, 3, 1), -7);
    due(36, "write(0,-1,1)", x.write(0, -1, 1), -7);
    due(36, "write(4,0,1)", x.write(4, 0, 1), -2);
    due(36, "write(1,0,1)", x.write(1, 0, 1), -6);
    due(36, "8 bits", x.write(0, 1, 200), -56);
    due(35, "numbers(1,1,40)", x.numbers(1, 1, 40), 0);
    due(36, "16 bits", x.write(1, 39, 65535 + 40000), 40000 - 65536 - 1);
    due(36, "no number 40", x.write(1, 40, 1), -7);
    due(35, "numbers(2,2,1)", x.numbers(2, 2, 1), 0);
    due(36, "32 bits", x.write(2, 0, (1L << 32) + 5), 5);
    due(36, "32 bits", x.write(2, 0, 1L << 31), -(1L << 31));
    due(35, "numbers(3,3,1)", x.numbers(3, 3, 1), 0);
    due(36, "64 bits", x.write(3, 0, Long.MIN_VALUE), Long.MIN_VALUE);
    due(35, "all 0 in place of another one", x.numbers(3, 3, 2), 0);
    due(13, "two hours", x.perform(3), 2);
    due(13, "nobody stepped", x.count(3) * 10 + x.goer(0, 0), 50);
    x.undo(1);
    // goer 0: noise 2, then 1: at 3 it must sleep one hour ahead
    due(37, "lists(3,3)", x.lists(3, 3), 2);
    due(12, "0, 1 are in it", x.judge(3, 2), 2);
    x.numbers(3, 0, 40);
    due(37, "lists(3,3) with places", x.lists(3, 3), 3);
    due(12, "all is done", x.judge(3, 3), 3);
    tray(x, 3, 9, 9, 9, 300, 5);
    due(37, "lists(3,3) with others behind", x.lists(3, 3), 3);
    due(12, "what is behind stays", x.judge(3, 0), 3);
    tray(x, 3, 9, 9);
    due(37, "lists(3,2): it steps at once", x.lists(3, 2), 1);
    due(12, "the first is 2", x.judge(3, 0) * 10 + x.judge(3, 3), 12);
    x.numbers(3, 0, 0);
    due(37, "lists without places", x.lists(3, 3), 0);
    due(37, "lists(4,3)", x.lists(4, 3), -2);
    due(37, "lists(-1,9)", x.lists(-1, 9), -2);
    due(37, "lists(3,4)", x.lists(3, 4), -3);
    due(37, "lists(3,-1)", x.lists(3, -1), -3);
    due(37, "lists(3,0)", x.lists(3, 0), 0);
    x = new SleepAct();
    due(37, "missing, ahead of the set", x.lists(0, 7), -6);
    x = awake();
    x.numbers(0, 0, 3);
    due(37, "lists when there is none", x.lists(0, 1), -5);
    due(37, "lists of others when there is none", x.lists(0, 4), -3);
  }

  private static void p38p39() {
    SleepAct x = told("street 2 house 0 depth 6;goer loud 3;people 4;draught 1;sleeps:depth-noise+draught;");
    due(39, "restore(0)", x.restore(0), -5);
    due(39, "restore(2)", x.restore(2), -2);
    due(39, "restore(-1)", x.restore(-1), -2);
    due(38, "image(2)", x.image(2), -2);
    due(38, "image(-1)", x.image(-1), -2);
    x.hour(1);
    x.hint(0, 1, 0);
    x.draught(2);
    due(38, "image(1)", x.image(1), 0);
    due(38, "what can be undone stays", x.count(7), 3);
    due(39, "restore(0), none", x.restore(0), -5);
    tray(x, 0, 1, 2);
    read(x, "street 5 house 0 depth 1;");
    feed(x, "street");
    due(38, "image(0)", x.image(0), 0);
    due(39, "restore(1)", x.restore(1), 0);
    int[] want = {2, 1, 4, 5, 0, 2, 1, 0, 20, 5};
    for (int i = 0; i < 10; i++) due(39, "count(" + i + ")", x.count(i), want[i]);
    due(39, "goer(0,0)", x.goer(0, 0), 1);
    due(39, "hints", x.hints(0), 1);
    due(39, "its laws", x.by(0), 7);
    due(39, "undo(1)", x.undo(1), -3);
    due(39, "the trays are as they are", x.write(0, 1, 9), 9);
    x.hour(1);
    due(39, "restore(1) again", x.restore(1), 0);
    due(39, "goer(0,0)", x.goer(0, 0), 1);
    due(39, "restore(0)", x.restore(0), 0);
    due(39, "count(0)", x.count(0), 5);
    due(39, "count(9)", x.count(9), 1);
    due(39, "its laws", x.by(0), 2);
    // laws of one street and draught are not told for another one
    x = told("street 1 house 0 depth 5;goer loud 1;noise:draught;sleeps:draught+noise-4;draught 9;");
    due(6, "by(1), noise 9", x.by(1), 9);
    due(6, "by(0)", x.by(0), 5);
    x.image(0);
    x.draught(3);
    due(6, "by(1), noise 3", x.by(1), 2);
    due(3, "another street", read(x, "street 1 house 0 depth 5;goer loud 1;noise:1;sleeps:noise+6;draught 9;"), 5);
    due(6, "by(1)", x.by(1), 7);
    due(6, "by(0)", x.by(0), 6);
    x.draught(0);
    due(6, "by(1)", x.by(1), 7);
    x.restore(0);
    due(39, "its draught and laws", x.by(0) * 10 + x.by(1), 59);
    due(39, "its noise", x.goer(0, 3), 9);
  }

  private static void p40() {
    SleepAct x = told("street 3 house 2 depth 7;goer loud 1 at 3;goer loud 2;goer loud 3 at 3;people 6;draught 8;");
    int[] want = {3, 3, 6, 7, 5, 8, 0, 0, 0, 6};
    for (int i = 0; i < 10; i++) due(40, "count(" + i + ")", x.count(i), want[i]);
    due(40, "count(10)", x.count(10), -1);
    due(40, "count(-1)", x.count(-1), -1);
    x.hours(3);
    x.hour(2);
    x.feed(0, 0, 0, 0, 0);
    due(40, "HOURS", x.count(6), 4);
    due(40, "calls that can be UNDONE", x.count(7), 2);
    due(40, "bytes", x.count(8), 20);
  }

  /** What was found for one street and draught is not told for another one, though all stand where they stood. */
  private static void keptBetweenCalls() {
    String law = "noise:draught*3;";
    String street = "street 1 house 0 depth 5;goer loud 9;goer loud 9;";
    SleepAct x = told(street + law);
    int[] soonest = {1, 3, 10, -1};
    // noise 0; 3 each: two hours of rest, then 7 less 6; 6 each: two hours till 7, a step, six hours, a step; 9 each
    for (int draught : new int[] {0, 3, 0, 2, 0, 1, 2, 1, 3, 2, 0}) {
      x.draught(draught);
      due(15, "soonest(3) by draught " + draught, x.soonest(3), soonest[draught]);
      due(18, "can() by draught " + draught, x.can(), draught == 3 ? 0 : 3);
      due(15, "soonest(3) by draught " + draught, x.soonest(3), soonest[draught]);
    }
    for (int round = 0; round < 3; round++) {
      due(3, "a street", read(x, street + "noise:6;"), 4);
      due(15, "soonest(3), noise 6", x.soonest(3), 10);
      due(3, "another street", read(x, street + "noise:0;"), 4);
      due(15, "soonest(3), noise 0", x.soonest(3), 1);
    }
    x = told("street 1 house 0 depth 5;goer loud 0;goer loud 0;sleeps:depth-draught;");
    int[] daring = {0, 0, 0, 1, 1, -1, -1, -1, -1, -1};
    for (int draught : new int[] {0, 3, 0, 5, 0, 4, 3, 5, 3, 0}) {
      x.draught(draught);
      due(31, "daring(1) by draught " + draught, x.daring(1), daring[draught]);
    }
    for (int round = 0; round < 3; round++) {
      for (int lose = 5; lose >= 2; lose--) {
        due(3, "a street", read(x, "street 1 house 0 depth 5;goer loud 0;goer loud 0;sleeps:depth-" + lose + ";"), 4);
        due(31, "daring(1) by " + lose, x.daring(1), daring[lose]);
      }
    }
    x = new SleepAct();
    for (int told = 9; told >= 0; told--) {
      due(3, "a street", read(x, "street 1 house 0 depth 5;goer loud 0;draught " + told + ";noise:" + told + ";sleeps:if steps=1 then 0 else " + told + " end;"), 5);
      due(5, "noise by " + told, x.goer(0, 3), told);
      due(6, "by(0) by " + told, x.by(0), told);
    }
    x = new SleepAct();
    for (int told = 1; told < 9; told++) {
      due(3, "a street", read(x, "street 1 house 0 depth 5;goer loud 0;noise:" + told + "+draught;sleeps:if steps=1 then noise else 9-" + told + " end;"), 4);
      for (int draught = 0; draught < 10; draught++) {
        x.draught(draught);
        due(5, "noise by " + told + ", " + draught, x.goer(0, 3), told + draught);
        due(6, "by(1) by " + told + ", " + draught, x.by(1), Math.min(9, told + draught));
        due(6, "by(0) by " + told + ", " + draught, x.by(0), 9 - told);
      }
    }
  }

  /** What is kept of one thing may not be told of another one that is like it in all but one. */
  private static void keptApart() {
    for (int one = 0; one < 10; one++) {
      for (int other = 0; other < 10; other++) {
        SleepAct x = told("street 1 house 0 depth 5;goer loud 0;draught " + one + ";noise:5;sleeps:if steps=1 then 3 else 6 end;");
        due(5, "noise by draught " + one, x.goer(0, 3), 5);
        due(6, "by(0) by draught " + one, x.by(0), 6);
        due(3, "a street", read(x, "street 1 house 0 depth 5;goer loud 0;draught " + other + ";noise:70;sleeps:if steps=1 then 2 else 9 end;"), 5);
        due(5, "noise by draught " + one + ", then " + other, x.goer(0, 3), 70);
        due(6, "by(0) by draught " + one + ", then " + other, x.by(0), 9);
      }
    }
    // much noise at one depth, none at the next one
    SleepAct x = told("street 3 house 0 depth 3;goer loud 0;goer loud 0;noise:if depth=3 then 64 else 0 end;"
        + "sleeps:if noise=128 then 5 else if noise=0 and steps=2 then 8 else 4 end end;");
    due(6, "by(3), noise 128", x.by(3), 5);
    due(8, "hours(1)", x.hours(1), 4);
    due(6, "by(3), noise 0", x.by(3), 8);
    // all four step without noise, or nobody does while a cart passes
    x = told("street 3 house 0 depth 4;goer loud 0;goer loud 0;goer loud 0;goer loud 0;cart 10 noise 1;noise:0;"
        + "sleeps:if steps=4 then 2 else if noise=1 then 7 else 5 end end;");
    due(6, "by(15)", x.by(15), 2);
    tray(x, 0, 0);
    due(34, "mean of an hour with a cart", x.mean(0, 0), 7);
    due(6, "by(15) again", x.by(15), 2);
    due(6, "by(0)", x.by(0), 5);
    // all four step in every hour, and no other depth is there
    x = told("street 3 house 0 depth 4;goer loud 0;goer loud 0;goer loud 0;goer loud 0;sleeps:depth;");
    due(15, "soonest(15)", x.soonest(15), 3);
    for (int i = 0; i < 4; i++) due(16, "way(15, " + i + ")", x.way(15, i), i < 3 ? 15 : -1);
    tray(x, 1, 0, 0, 0, 0);
    due(37, "lists(1, 15)", x.lists(1, 15), 3);
    due(12, "judge of it: why", x.judge(1, 1), 0);
    due(12, "judge of it: who is past", x.judge(1, 3), 15);
    // goers and depth are as they were in the game, but those of the set are on now
    x = told("street 2 house 0 depth 4;goer loud 0;goer loud 0;noise:goer*9;");
    due(31, "daring(1)", x.daring(1), 1);
    due(7, "hour(1)", x.hour(1), 5);
    due(31, "daring(1) a cell on", x.daring(1), 1);
    due(32, "dares(1) a cell on", x.dares(1), 0);
    due(31, "daring(2)", x.daring(2), -1);
    due(31, "daring(1) once more", x.daring(1), 1);
    due(11, "undo(1)", x.undo(1), 0);
    due(31, "daring(1), to be known", x.daring(1), 1);
    due(7, "hour(1)", x.hour(1), 5);
    due(7, "hour(0)", x.hour(0), 6);
    due(31, "daring(1), deeper by one", x.daring(1), 1);
    due(11, "undo(1)", x.undo(1), 1);
    due(7, "hour(1)", x.hour(1), 6);
    due(31, "daring(1), goer 0 past", x.daring(1), 1);
    due(32, "dares(1), goer 0 past", x.dares(1), -1);
    // both went a cell on: by turns at depth 4, where the sixth turn wakes it; at once at depth 5, where all are past ahead of it
    x = told("street 3 house 0 depth 6;goer loud 0;goer loud 0;sleeps:depth-1;");
    due(31, "daring(1), six turns", x.daring(1), 1);
    due(7, "hour(3)", x.hour(3), 5);
    due(31, "daring(1), four turns", x.daring(1), 0);
    // the others are nobody: an hour of theirs comes ahead of the cell, or doesn't
    x = told("street 4 house 0 depth 5;goer loud 0;sleeps:depth-1;");
    due(31, "daring(1), five turns", x.daring(1), -1);
    due(7, "hour(1)", x.hour(1), 4);
    due(31, "daring(1), four turns", x.daring(1), 1);
  }
}
