/** Promises 21 to 23, and what each instruction does to 19 and 20. */
public final class MachineTest {
  private MachineTest() {
  }

  public static void main(String[] args) {
    stackAndNumbers();
    numbersThatLeaveTheInts();
    tableAndStorage();
    rounding();
    vectors();
    moveRounded();
    moveToNumber();
    keepDistance();
    followAndAlign();
    keepBetween();
    spreadAll();
    spreadAgain();
    moveAtSize();
    zones();
    references();
    flow();
    functions();
    limits();
    faultsUndo();
    outside();
    composites();
    Check.end("MachineTest");
  }

  private static HintForge fontWithPointAt0() {
    HintForge font = Fonts.atSize25();
    Fonts.glyph(font, 100, 0, 0);
    return font;
  }

  /** What a row of instructions leaves on the stack, as a move of a point, or its fault. */
  private static Object value(HintForge font, String tokens) {
    Fonts.program(font, 0, "p0 H " + tokens + " D");
    char fault = font.fault(0);
    return fault == '-' ? (Object) font.pointX(0, 0, true) : fault;
  }

  private static Object value(String tokens) {
    return value(fontWithPointAt0(), tokens);
  }

  private static char fault(String tokens) {
    HintForge font = fontWithPointAt0();
    Fonts.program(font, 0, tokens);
    return font.fault(0);
  }

  private static void stackAndNumbers() {
    Check.same("p", value("p-99999"), -99999);
    Check.same("d", value("p7 d +"), 14);
    Check.same("x", value("p7 p9 x -"), 2);
    Check.same("o", value("p7 p9 o"), 7);
    Check.same("+", value("p7 p-9 +"), -2);
    Check.same("-", value("p7 p9 -"), -2);
    Check.same("* of 1.5 and 1.5", value("p96 p96 *"), 144);
    Check.same("* rounded", value("p1 p32 *"), 1);
    Check.same("* rounded down", value("p1 p31 *"), 0);
    Check.same("* below 0", value("p-1 p32 *"), 0);
    Check.same("* further below 0", value("p-1 p33 *"), -1);
    Check.same("/", value("p100 p128 /"), 50);
    Check.same("/ cut", value("p-1 p65 /"), 0);
    Check.same("/ cut below 0", value("p-3 p100 /"), -1);
    Check.same("/ by less than 0", value("p3 p-100 /"), -1);
    Check.same("<", value("p1 p2 <"), 1);
    Check.same("not <", value("p2 p2 <"), 0);
    Check.same("=", value("p2 p2 ="), 1);
    Check.same("not =", value("p2 p3 ="), 0);
    Check.same("~", value("p5 ~"), -5);
    Check.same("H", value("H"), 25);
    for (String tokens : "d;x;p1 x;o;+;p1 +;-;p1 /;~;M;F;Z;S0;m;i;p0 i;r;k;l;b;I;D;p1 p1 D;w;p0 w;v;s;p0 s;q;G;c1".split(";")) {
      Check.same("nothing to pop: " + tokens, fault(tokens), 'u');
    }
    Check.same("division by 0", fault("p5 p0 /"), 'z');
    Check.same("pops come ahead of the division", fault("p0 /"), 'u');
  }

  private static void numbersThatLeaveTheInts() {
    // 99999 * 99999 / 64 = 156246875, and four times that leaves the ints after 13 more.
    String large = "p99999 d * ";
    Check.same("product", fault(large + "p64 p50 * *"), '-');
    Check.same("product too large", fault(large + "d *"), 'a');
    Check.same("quotient too large", fault(large + "p1 /"), 'a');
    Check.same("sum", fault(large + "d + d + d +"), '-');
    Check.same("sum too large", fault(large + "d + d + d + d +"), 'a');
    Check.same("difference too small", fault(large + "d + d + d + ~ d ~ -"), 'a');
    // The ints' least number: -(2^15 * 2^22 / 2^6), of which the negative is no int.
    String least = "p-32768 p32768 p8192 * * ";
    Check.same("the least int", fault(least + "o"), '-');
    Check.same("its negative", fault(least + "~"), 'a');
    Check.same("one less", fault(least + "p1 -"), 'a');
    Check.same("one more", fault(least + "p1 + ~"), '-');
    HintForge font = fontWithPointAt0();
    Fonts.program(font, 0, least + "~");
    Check.same("exact", font.isExact(0), true);
    Check.same("its steps", font.steps(0), 6);
    Fonts.program(font, 0, "o");
    Check.same("not exact", font.isExact(0), false);
    font.clearProgram(0);
    Check.same("no program is not exact", font.isExact(0), false);
    Check.raises("isExact of no glyph", Check.INDEX, () -> font.isExact(1));
    Check.raises("fault of no glyph", Check.INDEX, () -> font.fault(1));
    Check.raises("steps of no glyph", Check.INDEX, () -> font.steps(-1));
  }

  private static void tableAndStorage() {
    HintForge font = fontWithPointAt0();
    font.addNumber(100);
    font.addNumber(-7);
    Check.same("v 0", value(font, "p0 v"), 160);
    Check.same("v 1", value(font, "p1 v"), -11);
    Check.same("v 2", value(font, "p2 v"), 'r');
    Check.same("v -1", value(font, "p-1 v"), 'r');
    Check.same("w", value(font, "p1 p33 w p1 v"), 33);
    Check.same("a run has its own copy", value(font, "p1 v"), -11);
    Check.same("w 2", value(font, "p2 p33 w p1"), 'r');
    Check.same("q at first", value(font, "p7 q"), 0);
    Check.same("s", value(font, "p7 p44 s p7 q"), 44);
    Check.same("storage is 0 in each run", value(font, "p7 q"), 0);
    Check.same("s 8", value(font, "p8 p1 s p1"), 'r');
    Check.same("q -1", value(font, "p-1 q"), 'r');
    font.setSize(12);
    Check.same("scaled table", value(font, "p0 v"), 77);
  }

  /** A number of 64ths in each of the roundings. */
  private static String rounded(int number) {
    StringBuilder all = new StringBuilder();
    for (int way = 0; way <= 5; way++) {
      HintForge font = fontWithPointAt0();
      Fonts.program(font, 0, "p0 H p" + number + " D R" + way + " p0 m");
      all.append(way == 0 ? "" : " ").append(font.pointX(0, 0, true));
    }
    return all.toString();
  }

  private static void rounding() {
    Check.same("40", rounded(40), "64 32 32 64 0 40");
    Check.same("-40", rounded(-40), "-64 -32 -32 0 -64 -40");
    Check.same("31", rounded(31), "0 32 32 64 0 31");
    Check.same("32", rounded(32), "64 32 32 64 0 32");
    Check.same("-32", rounded(-32), "0 -32 -32 0 -64 -32");
    Check.same("-33", rounded(-33), "-64 -32 -32 0 -64 -33");
    Check.same("63", rounded(63), "64 32 64 64 0 63");
    Check.same("64", rounded(64), "64 96 64 64 64 64");
    Check.same("65", rounded(65), "64 96 64 128 64 65");
    Check.same("0", rounded(0), "0 32 0 0 0 0");
    Check.same("15", rounded(15), "0 32 0 64 0 15");
    Check.same("16", rounded(16), "0 32 32 64 0 16");
    Check.same("-16", rounded(-16), "0 -32 0 0 -64 -16");
    Check.same("-17", rounded(-17), "0 -32 -32 0 -64 -17");
    Check.same("-64", rounded(-64), "-64 -32 -64 -64 -64 -64");
  }

  /** x and y of a point at told units after a program. */
  private static String moved(int x, int y, String tokens) {
    HintForge font = Fonts.atSize25();
    Fonts.glyph(font, 100, x, y);
    Fonts.program(font, 0, tokens);
    StringBuilder all = new StringBuilder();
    all.append(font.fault(0)).append(' ');
    all.append(font.pointX(0, 0, true)).append(' ').append(font.pointY(0, 0, true));
    return all.toString();
  }

  private static void vectors() {
    Check.same("vector 0", moved(25, 25, "p0 m"), "- 64 40");
    Check.same("vector 1", moved(25, 25, "p1 M p1 F p0 m"), "- 40 64");
    // (40, 40) measures 57 on vector 2, and 7 * 11585 / 16383 is cut to 4.
    Check.same("vector 2", moved(25, 25, "p2 M p2 F p0 m"), "- 44 44");
    // 7 * 16384 / 11585 is cut to 9.
    Check.same("measured on 2, moved on 0", moved(25, 25, "p2 M p0 F p0 m"), "- 49 40");
    Check.same("measured on 0, moved on 2", moved(25, 25, "p0 M p2 F p0 m"), "- 64 64");
    // f is 11584: -24 * 11585 / -11585, and 24 * -11585 / -11585.
    Check.same("measured on 1, moved on 3", moved(25, 25, "p1 M p3 F p0 m"), "- 16 64");
    // (80, 40) measures 28 on vector 3, and -28 * 11585 / 16383 is cut to -19.
    Check.same("vector 3", moved(50, 25, "p3 M p3 F p0 m"), "- 61 59");
    Check.same("f is 0", moved(25, 25, "p0 M p1 F p0 m"), "z 40 40");
    Check.same("f is 0 on 2 and 3", moved(25, 25, "p2 M p3 F p0 m"), "z 40 40");
    Check.same("f is 0 for a move by 0", moved(0, 0, "p1 F p0 m"), "z 0 0");
    Check.same("M 4", moved(25, 25, "p4 M"), "r 40 40");
    Check.same("F -1", moved(25, 25, "p-1 F"), "r 40 40");
  }

  private static void moveRounded() {
    HintForge font = Fonts.atSize25();
    Fonts.glyph(font, 100, 25, 0, 65, 0, 105, 0);
    Fonts.program(font, 0, "p1 m p2 k");
    // m puts 104 to 128 and makes the point the reference 0, which k follows by 24.
    Check.same("m and k", Fonts.x(font, 0), "40 128 192 0 160");
    Fonts.program(font, 0, "p1 m p2 S2 p0 b");
    // The reference 1 is 104, now 128; 2 is 168; 128 + (40 - 104) * 40 / 64.
    Check.same("m and b", Fonts.x(font, 0), "88 128 168 0 160");
    Fonts.program(font, 0, "p5 m");
    Check.same("no point 5", font.fault(0), 'r');
    Fonts.program(font, 0, "p4 m");
    Check.same("the end moves", Fonts.x(font, 0), "40 104 168 0 192");
  }

  private static void moveToNumber() {
    HintForge font = Fonts.atSize25();
    Fonts.glyph(font, 100, 25, 0, 60, 0);
    font.addNumber(70);
    font.addNumber(5);
    // t is 112: 72 from 40, and 16 from 96.
    Fonts.program(font, 0, "p0 p0 i p1 p0 i");
    Check.same("far and near", Fonts.x(font, 0), "64 128 0 160");
    Fonts.program(font, 0, "p0 p0 i p1 k");
    Check.same("is the reference 0", Fonts.x(font, 0), "64 120 0 160");
    Fonts.program(font, 0, "R5 p0 p1 i p1 p0 i");
    // 8 is 32 from 40; 112 is 16 from 96.
    Check.same("near", Fonts.x(font, 0), "8 112 0 160");
    font.movePoint(0, 0, 0, 0);
    font.addNumber(42);
    font.addNumber(43);
    Fonts.program(font, 0, "R5 p0 p2 i");
    Check.same("67 from there", font.pointX(0, 0, true), 67);
    font.movePoint(0, 0, -1, 0);
    Check.same("69 from there", font.pointX(0, 0, true), -2);
    font.movePoint(0, 0, 0, 0);
    Fonts.program(font, 0, "p2 p68 w p0 p2 R5 i");
    Check.same("68 from there", font.pointX(0, 0, true), 68);
    Fonts.program(font, 0, "p2 p69 w p0 p2 R5 i");
    Check.same("69 from there too", font.pointX(0, 0, true), 0);
    Fonts.program(font, 0, "p0 p4 i");
    Check.same("no place 4", font.fault(0), 'r');
    Fonts.program(font, 0, "p9 p0 i");
    Check.same("no point 9", font.fault(0), 'r');
    Fonts.program(font, 0, "p99 i");
    Check.same("pops come first", font.fault(0), 'u');
  }

  private static int distance(String way, int units) {
    HintForge font = Fonts.atSize25();
    Fonts.glyph(font, 100, 40, 0, 40 + units, 0);
    Fonts.program(font, 0, way + " p1 r");
    return font.pointX(0, 1, true) - 64;
  }

  private static void keepDistance() {
    Check.same("112", distance("R0", 70), 128);
    Check.same("16", distance("R0", 10), 64);
    Check.same("0", distance("R0", 0), 64);
    Check.same("-16", distance("R0", -10), -64);
    Check.same("-112", distance("R0", -70), -128);
    Check.same("-72 up", distance("R3", -45), -128);
    Check.same("-120 down", distance("R4", -75), -64);
    Check.same("72 half", distance("R1", 45), 96);
    Check.same("-72 off", distance("R5", -45), -72);
    HintForge font = Fonts.atSize25();
    Fonts.glyph(font, 100, 25, 0, 95, 0, 60, 0);
    Fonts.program(font, 0, "p0 m p1 r p2 b");
    // 64 + 128; then between 40 and 152, now 64 and 192: 64 + 56 * 128 / 112.
    Check.same("m, r and b", Fonts.x(font, 0), "64 192 128 0 160");
    Fonts.program(font, 0, "p2 S0 p1 r p0 b");
    // 152 is 56 from 96, and goes 64 from there; 40 is 56 from 96 on the other side.
    Check.same("r alone gives the references 1 and 2", Fonts.x(font, 0), "32 160 96 0 160");
    Fonts.program(font, 0, "p2 S0 p1 r p3 k");
    // The reference 0 stays the point 2: it did not move.
    Check.same("r leaves the reference 0", font.pointX(0, 3, true), 0);
  }

  private static void followAndAlign() {
    HintForge font = Fonts.atSize25();
    Fonts.glyph(font, 100, 25, 0, 95, 50, 60, 7);
    Fonts.program(font, 0, "p0 m p1 k p2 l");
    Check.same("k and l in x", Fonts.x(font, 0), "64 176 64 0 160");
    Check.same("not in y", Fonts.y(font, 0), "0 80 11 0 0");
    Fonts.program(font, 0, "p1 M p1 F p1 S0 p0 l");
    Check.same("l in y", Fonts.y(font, 0), "80 80 11 0 0");
  }

  private static void keepBetween() {
    HintForge font = Fonts.atSize25();
    Fonts.glyph(font, 100, 0, 0, 100, 0, 45, 0, -45, 0, 0, 10);
    // 0 to 10 and 160 to 185, in 64ths; 72 and -72 between and outside.
    String set = "p0 H p10 D p1 H p25 D p0 S1 p1 S2 ";
    Fonts.program(font, 0, set + "p2 b p3 b");
    // 10 + 72 * 175 / 160 and 10 - 72 * 175 / 160.
    Check.same("b", Fonts.x(font, 0), "10 185 88 -68 0 0 160");
    Fonts.program(font, 0, "p0 H p10 D p0 S1 p4 S2 p2 b");
    Check.same("equal ones", Fonts.x(font, 0), "10 160 82 -72 0 0 160");
    Fonts.program(font, 0, set + "p9 b");
    Check.same("no point 9", font.fault(0), 'r');
    Fonts.program(font, 0, "p0 S1 p6 S2 p0 b");
    Check.same("the end is a reference", font.fault(0), '-');
  }

  private static void spreadAll() {
    HintForge font = Fonts.atSize25();
    Fonts.glyph(font, 100, 0, 0, 50, 50, 100, 100, 200, 50);
    Fonts.contour(font, 0, 10, 10, 20, 20, 30, 40);
    Fonts.contour(font, 0, 300, 300, 310, 310);
    Fonts.program(font, 0, "p0 H p8 D p2 H p24 D p5 H p7 D p0 I");
    // 80 between 0, moved by 8, and 160, moved by 24; 320 is beyond 160; 7 for a whole contour.
    Check.same("I in x", Fonts.x(font, 0), "8 96 184 344 23 39 55 480 496 0 160");
    Check.same("not in y", Fonts.y(font, 0), "0 80 160 80 16 32 64 480 496 0 0");
    Fonts.program(font, 0, "p1 M p1 F p0 H p8 D p2 H p24 D p0 I");
    Check.same("touched in y alone", Fonts.x(font, 0), "0 80 160 320 16 32 48 480 496 0 160");
    Fonts.program(font, 0, "p1 M p1 F p0 H p8 D p2 H p24 D p1 I");
    Check.same("I in y", Fonts.y(font, 0), "8 96 184 96 16 32 64 480 496 0 0");
    Fonts.program(font, 0, "p2 F p2 H p10 D p0 I p1 I");
    Check.same("touched in both, x", Fonts.x(font, 0), "10 90 170 330 16 32 48 480 496 0 160");
    Check.same("touched in both, y", Fonts.y(font, 0), "10 90 170 90 16 32 64 480 496 0 0");
    Fonts.program(font, 0, "p0 H p8 D p0 Z p0 I");
    Check.same("I in the zone 0", Fonts.x(font, 0), "8 88 168 328 16 32 48 480 496 0 160");
    Fonts.program(font, 0, "p0 H p8 D p2 H p24 D p1 M p1 F p1 H p3 D p0 I");
    Check.same("moved in y, not touched in x", Fonts.x(font, 0), "8 96 184 344 16 32 48 480 496 0 160");
    Fonts.program(font, 0, "p1 M p1 F p0 H p8 D p2 H p24 D p0 M p0 F p1 H p3 D p1 I");
    Check.same("moved in x, not touched in y", Fonts.y(font, 0), "8 96 184 96 16 32 64 480 496 0 0");
    Fonts.program(font, 0, "p2 I");
    Check.same("I 2", font.fault(0), 'r');
    Fonts.program(font, 0, "p0 H p0 D p2 H p24 D p0 I");
    Check.same("touched by 0", Fonts.x(font, 0), "0 92 184 344 16 32 48 480 496 0 160");
  }

  private static void spreadAgain() {
    HintForge font = Fonts.atSize25();
    Fonts.glyph(font, 100, 0, 0, 50, 50, 100, 100);
    Fonts.program(font, 0, "p0 H p8 D p0 I p0 I");
    Check.same("moved twice from where it is", Fonts.x(font, 0), "8 96 176 0 160");
  }

  private static void moveAtSize() {
    Check.same("D", moved(25, 0, "p0 p25 p5 D"), "- 45 0");
    Check.same("another size", moved(25, 0, "p0 p24 p5 D"), "- 40 0");
    Check.same("no point", moved(25, 0, "p3 p24 p5 D"), "r 40 0");
    Check.same("f is not looked at", moved(25, 0, "p1 F p0 p24 p5 D"), "- 40 0");
    Check.same("f is looked at", moved(25, 0, "p1 F p0 p25 p5 D"), "z 40 0");
  }

  private static void zones() {
    HintForge font = Fonts.atSize25();
    Fonts.glyph(font, 100, 25, 30);
    font.addNumber(50);
    Fonts.program(font, 0, "p0 Z R5 p7 p0 i p7 G p1 Z p0 x H x D");
    Check.same("put and moved by 0", font.fault(0), '-');
    Check.same("G in the zone 0", font.pointX(0, 0, true), 120);
    Fonts.program(font, 0, "p0 Z p7 p0 i p6 k p6 G p1 Z p0 x H x D");
    // 80 is put to 64 where it was rounded; k moves by what the reference moved: -16.
    Check.same("moved from where it was put", font.pointX(0, 0, true), 24);
    Fonts.program(font, 0, "p0 Z p7 G p6 G + p1 Z p0 x H x D");
    Check.same("the zone 0 starts anew", font.pointX(0, 0, true), 40);
    Fonts.program(font, 0, "p0 Z p8 p0 i");
    Check.same("no point 8", font.fault(0), 'r');
    Fonts.program(font, 0, "p0 Z p7 m");
    Check.same("point 7", font.fault(0), '-');
    Fonts.program(font, 0, "p2 Z");
    Check.same("no zone 2", font.fault(0), 'r');
    Fonts.program(font, 0, "p2 M p2 F R5 p0 Z p0 p0 i p0 M p0 G p1 Z p0 x H x p0 F D");
    // 80 * 11585 >> 14 is 56; (56, 56) measures 79, so that it moves by 1: cut to 0.
    Check.same("put on vector 2", font.pointX(0, 0, true), 96);
  }

  private static void references() {
    Check.same("S 3", fault("p3 S0"), 'r');
    Check.same("S 2", fault("p2 S0"), '-');
    HintForge font = fontWithPointAt0();
    for (int i = 1; i < 9; i++) {
      font.addPoint(0, 5 * i, 0, true);
    }
    Fonts.program(font, 0, "p8 S0 p0 Z p0 k");
    Check.same("reference 0 is not in the zone 0", font.fault(0), 'r');
    Fonts.program(font, 0, "p8 S0 p0 Z p0 l");
    Check.same("nor for l", font.fault(0), 'r');
    Fonts.program(font, 0, "p8 S0 p0 Z p0 r");
    Check.same("nor for r", font.fault(0), 'r');
    Fonts.program(font, 0, "p8 S1 p0 Z p0 b");
    Check.same("nor the reference 1", font.fault(0), 'r');
    Fonts.program(font, 0, "p8 S2 p0 Z p0 b");
    Check.same("nor the reference 2", font.fault(0), 'r');
    Fonts.program(font, 0, "p8 S2 p8 S1 p0 Z p0 m p0 k p0 G");
    Check.same("m asks none", font.fault(0), '-');
    Fonts.program(font, 0, "p9 S0");
    Check.same("the begin is a reference", font.fault(0), '-');
    Fonts.program(font, 0, "p11 S0");
    Check.same("no point 11", font.fault(0), 'r');
    Fonts.program(font, 0, "p11 G");
    Check.same("G of no point", font.fault(0), 'r');
  }

  private static void flow() {
    Check.same("j", value("p1 j2 p2 p3 +"), 4);
    Check.same("c", value("p1 p1 c2 p2 p3 +"), 4);
    Check.same("c not gone", value("p1 p0 c2 p2 +"), 3);
    Check.same("e", value("p1 D p1 e p1 p1 p1"), 1);
    Check.same("j to the end", fault("j2 o"), '-');
    Check.same("j behind the end", fault("j3 o"), 'j');
    Check.same("j ahead of the begin", fault("p1 j-2"), 'j');
    Check.same("c behind the end", fault("p1 c2"), 'j');
    Check.same("c behind the end, not gone", fault("p0 c60"), '-');
    HintForge font = fontWithPointAt0();
    Fonts.program(font, 0, "p3 p-1 + d c-3");
    Check.same("a loop", font.steps(0), 13);
    Fonts.program(font, 0, "p1 e o o");
    Check.same("e counts", font.steps(0), 2);
    Fonts.program(font, 0, "p1 o o p1");
    Check.same("the one with a fault counts", font.steps(0), 3);
  }

  private static void functions() {
    HintForge font = fontWithPointAt0();
    Fonts.function(font, "p5 e p6");
    Fonts.function(font, "");
    Fonts.function(font, "C0 C0 + j1");
    Check.same("C", value(font, "C0"), 5);
    Check.same("C of C", value(font, "C2"), 10);
    Fonts.program(font, 0, "C1 C2 C1");
    Check.same("steps of functions", font.steps(0), 11);
    Fonts.program(font, 0, "C3");
    Check.same("no function 3", font.fault(0), 'r');
    Check.same("its step", font.steps(0), 1);
    Fonts.function(font, "p1 j-3");
    Fonts.program(font, 0, "p1 p1 p1 p1 C3");
    Check.same("j in a function", font.fault(0), 'j');
  }

  private static void limits() {
    HintForge font = fontWithPointAt0();
    Fonts.program(font, 0, "j0");
    Check.same("for ever", font.fault(0), 'b');
    Check.same("400 steps", font.steps(0), 400);
    // A loop of 99 times 4 instructions and the p: 397; then 3 or 4 more.
    Fonts.program(font, 0, "p99 p-1 + d c-3 o p1 o");
    Check.same("400 instructions", font.fault(0), '-');
    Check.same("400 of them", font.steps(0), 400);
    Fonts.program(font, 0, "p99 p-1 + d c-3 o p1 o e");
    Check.same("401 instructions", font.fault(0), 'b');
    Check.same("400 still", font.steps(0), 400);
    Fonts.function(font, "C0");
    Fonts.program(font, 0, "C0");
    Check.same("calls of calls", font.fault(0), 'b');
    Check.same("the seventh one", font.steps(0), 7);
    HintForge other = fontWithPointAt0();
    Fonts.function(other, "d c2 j5 p-1 + C0");
    Fonts.program(other, 0, "p5 C0");
    Check.same("six calls within each other", other.fault(0), 'j');
    StringBuilder pushes = new StringBuilder();
    for (int i = 0; i < 24; i++) {
      pushes.append("p1 ");
    }
    Check.same("24 on the stack", fault(pushes + "x + p1"), '-');
    Check.same("a 25th pushed", fault(pushes + "p1"), 'o');
    Check.same("a 25th doubled", fault(pushes + "d"), 'o');
    Check.same("a 25th of H", fault(pushes + "H"), 'o');
  }

  private static void faultsUndo() {
    HintForge font = Fonts.atSize25();
    Fonts.glyph(font, 90, 25, 0);
    Fonts.program(font, 0, "p0 m p2 m");
    Check.same("moved", Fonts.x(font, 0), "64 0 128");
    Fonts.program(font, 0, "p0 m p2 m o");
    Check.same("as they were", Fonts.x(font, 0), "40 0 144");
    Check.same("advance as it was", font.advance(0, true), 128);
  }

  private static void outside() {
    Check.same("a million", value("p99999 p640 * p10 +"), 1000000);
    Check.same("more than a million", value("p99999 p640 * p11 +"), 'a');
    Check.same("less than a million", value("p99999 p-640 * p10 -"), -1000000);
    Check.same("far less than a million", value("p99999 p-640 * p11 -"), 'a');
    HintForge font = fontWithPointAt0();
    Fonts.program(font, 0, "p0 H p99999 d * D");
    Check.same("outside", font.fault(0), 'a');
    Check.same("is not exact", font.isExact(0), false);
    Check.same("stays", font.pointX(0, 0, true), 0);
    font.addNumber(1);
    Fonts.program(font, 0, "p0 Z p0 p99999 d * w p0 p0 i");
    Check.same("put outside", font.fault(0), 'a');
    Check.same("put outside is not exact", font.isExact(0), false);
  }

  private static void composites() {
    HintForge font = Fonts.atSize25();
    Fonts.glyph(font, 0, 0, 0, 25, 0, 50, 0);
    font.addGlyph(100);
    font.addPart(1, 0, 0, 0, 64);
    font.addPart(1, 0, 100, 0, 64);
    Fonts.program(font, 0, "p1 m");
    Check.same("programs of parts do not run", Fonts.x(font, 1), "0 40 80 160 200 240 0 160");
    Fonts.program(font, 1, "p1 m p0 I");
    // The contours of the parts are apart.
    Check.same("contours of parts", Fonts.x(font, 1), "24 64 104 160 200 240 0 160");
  }
}
