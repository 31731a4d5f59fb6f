/**
 * What the machine starts with, its roundings below 0 and at their halves, spreading at and between
 * its reference numbers, and which references an instruction sets and asks.
 */
public final class MachineEdgesTest {
  private MachineEdgesTest() {
  }

  public static void main(String[] args) {
    startOfARun();
    roundings();
    measuredHalves();
    movesAreCut();
    products();
    quotients();
    comparisons();
    farNumbers();
    putBelow0();
    distances();
    between();
    referencesOfEach();
    spreading();
    spreadContours();
    touched();
    scaledTable();
    hintedOrNot();
    Check.end("MachineEdgesTest");
  }

  private static HintForge fontAt(int... units) {
    HintForge font = Fonts.atSize25();
    Fonts.glyph(font, 0, units);
    return font;
  }

  private static int value(HintForge font, String tokens) {
    // The point 0 is moved along 0 by what is pushed; it is at 0 if nothing else moves it.
    Fonts.program(font, 0, "p0 H " + tokens + " p0 M p0 F D");
    Check.same("no fault of " + tokens, font.fault(0), '-');
    return font.pointX(0, 0, true) - font.pointX(0, 0, false);
  }

  private static void value(String tokens, int due) {
    Check.same(tokens, value(fontAt(0, 0, 5, 10), tokens), due);
  }

  private static void points(HintForge font, String tokens, String due) {
    Fonts.program(font, 0, tokens);
    Check.same(tokens, font.fault(0) + " " + Fonts.x(font, 0), "- " + due);
  }

  private static void startOfARun() {
    HintForge font = fontAt(10, 0, 45, 45, 70, 0);
    font.addNumber(10);
    // The references are the point 0, the vectors are 0, the rounding is to the grid, in the zone 1.
    points(font, "p1 m", "16 64 112 0 0");
    points(font, "p1 r", "16 80 112 0 0");
    points(font, "p2 l", "16 72 16 0 0");
    points(font, "p0 H p5 D p1 k", "21 77 112 0 0");
    points(font, "p0 H p5 D p1 b", "21 77 112 0 0");
    for (int run = 0; run < 2; run++) {
      // A run that changes all of it does not change the next one.
      Fonts.program(font, 0, "p1 M p1 F R5 p2 S0 p2 S1 p2 S2 p3 p9 s p0 p99 w p0 Z p7 p0 i p5 p6");
      Check.same("changed", font.fault(0), '-');
      points(font, "p3 q p0 v + p1 x H x D p1 m", "16 64 112 0 0");
      points(font, "p0 Z p7 G p1 Z p1 x H x D", "16 72 112 0 0");
      points(font, "p1 r", "16 80 112 0 0");
    }
  }

  private static int rounded(int way, int number) {
    HintForge font = fontAt(0, 0);
    Fonts.program(font, 0, "p0 H p" + number + " D R" + way + " p0 m");
    return font.pointX(0, 0, true);
  }

  private static void rounding(int way, int... pairs) {
    for (int i = 0; i < pairs.length; i += 2) {
      Check.same("rounding " + way + " of " + pairs[i], rounded(way, pairs[i]), pairs[i + 1]);
    }
  }

  private static void roundings() {
    rounding(0, 0, 0, 31, 0, 32, 64, 33, 64, 95, 64, 96, 128, -1, 0, -31, 0, -32, 0, -33, -64, -64, -64,
        -95, -64, -96, -64, -97, -128);
    rounding(1, 0, 32, 31, 32, 32, 32, 63, 32, 64, 96, -1, -32, -32, -32, -33, -32, -63, -32, -64, -32, -65, -96);
    rounding(2, 0, 0, 15, 0, 16, 32, 31, 32, 47, 32, 48, 64, -1, 0, -15, 0, -16, 0, -17, -32, -48, -32, -49, -64);
    rounding(3, 0, 0, 1, 64, 63, 64, 64, 64, 65, 128, -1, 0, -63, 0, -64, -64, -65, -64, -127, -64, -128, -128);
    rounding(4, 0, 0, 1, 0, 63, 0, 64, 64, 65, 64, -1, -64, -63, -64, -64, -64, -65, -128, -128, -128);
    rounding(5, 0, 0, 1, 1, 31, 31, -1, -1, -33, -33);
  }

  /** 11585 * 8192 / 16384 is 5792.5; below 0 the half goes up, too. */
  private static void measuredHalves() {
    HintForge font = new HintForge();
    font.setSize(32);
    Fonts.glyph(font, 0, 0, 0, 2000, 2000, -2000, -2000, 2000, -2000, -2000, 2000);
    Check.same("2000 units", Fonts.xs(font, 0, false), "0 4096 -4096 4096 -4096 0 0");
    Check.same("a half", value(font, "p2 M p1 G"), 5793);
    Check.same("a half below 0", value(font, "p2 M p2 G"), -5792);
    Check.same("across", value(font, "p2 M p3 G"), 0);
    Check.same("a half on 3", value(font, "p3 M p3 G"), 5793);
    Check.same("a half on 3 below 0", value(font, "p3 M p4 G"), -5792);
    Check.same("on 1", value(font, "p1 M p1 G"), 4096);
    Check.same("on 1 below 0", value(font, "p1 M p3 G"), -4096);
    Check.same("on 0", value(font, "p0 M p4 G"), -4096);
    // 11585 / 16384 is 0.7071; 0.2929 less than 1 is nearer to 1, and to 0 from below.
    font = fontAt(0, 0, 0, 0, 0, 0);
    Check.same("1 on 2", value(font, "p1 H p1 D p2 M p1 G"), 1);
    Check.same("-1 on 2", value(font, "p1 H p-1 D p2 M p1 G"), -1);
    Check.same("3 on 2", value(font, "p1 H p3 D p2 M p1 G"), 2);
    Check.same("5 on 2", value(font, "p1 H p5 D p2 M p1 G"), 4);
    Check.same("-5 on 2", value(font, "p1 H p-5 D p2 M p1 G"), -4);
    // 11585 * -705 / 16384 is -498.50006.
    Check.same("-705 on 2", value(font, "p1 H p-705 D p2 M p1 G"), -499);
    Check.same("705 on 2", value(font, "p1 H p705 D p2 M p1 G"), 499);
    Check.same("99999 on 3", value(font, "p1 H p99999 D p3 M p1 G"), 70709);
    Check.same("99999 in y on 3", value(font, "p1 M p1 F p1 H p99999 D p3 M p1 G"), -70709);
    Check.same("99999 in y on 2", value(font, "p1 M p1 F p1 H p99999 D p2 M p1 G"), 70709);
  }

  private static String moved(String tokens) {
    HintForge font = fontAt(0, 0);
    Fonts.program(font, 0, tokens);
    return font.fault(0) + " " + font.pointX(0, 0, true) + " " + font.pointY(0, 0, true);
  }

  private static void movesAreCut() {
    // f is 16384, 11585 and 16383.
    Check.same("along 0", moved("p0 H p7 D"), "- 7 0");
    Check.same("along 1", moved("p1 M p1 F p0 H p-7 D"), "- 0 -7");
    Check.same("along 2", moved("p2 M p2 F p0 H p10 D"), "- 7 7");
    Check.same("along 2 back", moved("p2 M p2 F p0 H p-10 D"), "- -7 -7");
    Check.same("along 2 by 1", moved("p2 M p2 F p0 H p1 D"), "- 0 0");
    Check.same("along 2 by -1", moved("p2 M p2 F p0 H p-1 D"), "- 0 0");
    Check.same("along 2 by 17", moved("p2 M p2 F p0 H p17 D"), "- 12 12");
    Check.same("along 3", moved("p3 M p3 F p0 H p10 D"), "- 7 -7");
    Check.same("along 3 back", moved("p3 M p3 F p0 H p-10 D"), "- -7 7");
    Check.same("0 by 2", moved("p0 M p2 F p0 H p5 D"), "- 5 5");
    Check.same("0 by 3", moved("p0 M p3 F p0 H p5 D"), "- 5 -5");
    Check.same("1 by 2", moved("p1 M p2 F p0 H p5 D"), "- 5 5");
    Check.same("1 by 3", moved("p1 M p3 F p0 H p5 D"), "- -5 5");
    Check.same("2 by 0", moved("p2 M p0 F p0 H p5 D"), "- 7 0");
    Check.same("2 by 0 back", moved("p2 M p0 F p0 H p-5 D"), "- -7 0");
    Check.same("2 by 1", moved("p2 M p1 F p0 H p5 D"), "- 0 7");
    Check.same("3 by 1", moved("p3 M p1 F p0 H p5 D"), "- 0 -7");
    Check.same("3 by 1 back", moved("p3 M p1 F p0 H p-5 D"), "- 0 7");
    Check.same("2 by 0, far", moved("p2 M p0 F p0 H p99999 D"), "- 141422 0");
    Check.same("2 by 2, far", moved("p2 M p2 F p0 H p99999 D"), "- 70712 70712");
    Check.same("by 0", moved("p2 M p2 F p0 H p0 D"), "- 0 0");
  }

  private static void products() {
    value("p1 p31 *", 0);
    value("p1 p32 *", 1);
    value("p1 p95 *", 1);
    value("p1 p96 *", 2);
    value("p-1 p32 *", 0);
    value("p-1 p33 *", -1);
    value("p-1 p96 *", -1);
    value("p-1 p97 *", -2);
    value("p-32 p-1 *", 1);
    value("p-31 p-1 *", 0);
    value("p64 p-7 *", -7);
    value("p0 p-7 *", 0);
  }

  private static void quotients() {
    value("p1 p64 /", 1);
    value("p1 p65 /", 0);
    value("p-1 p64 /", -1);
    value("p-1 p65 /", 0);
    value("p1 p-65 /", 0);
    value("p1 p-64 /", -1);
    value("p-1 p-64 /", 1);
    value("p5 p3 /", 106);
    value("p-5 p3 /", -106);
    value("p5 p-3 /", -106);
    value("p-5 p-3 /", 106);
    value("p0 p-3 /", 0);
    value("p128 p64 /", 128);
  }

  private static void comparisons() {
    value("p3 p4 <", 1);
    value("p4 p4 <", 0);
    value("p5 p4 <", 0);
    value("p-5 p-4 <", 1);
    value("p-4 p4 <", 1);
    value("p4 p4 =", 1);
    value("p4 p-4 =", 0);
    value("p0 p0 =", 1);
    value("p3 ~", -3);
    value("p0 ~", 0);
    value("p-3 ~", 3);
    value("p3 p4 -", -1);
    value("p3 p4 x -", 1);
    value("p3 p4 o", 3);
    value("p3 d d + +", 9);
    value("H", 25);
  }

  private static void farNumbers() {
    HintForge font = fontAt(0, 0);
    font.addNumber(-2000);
    font.addNumber(2000);
    Check.same("the least of the table", value(font, "p0 v"), -3200);
    Check.same("the greatest of the table", value(font, "p1 v"), 3200);
    String least = "p-32768 p32768 p8192 * * ";
    Check.same("any int is written", value(font, "p1 " + least + "w p1 v " + least + "="), 1);
    Check.same("beside the others", value(font, "p1 " + least + "w p0 v"), -3200);
    Check.same("any int is stored", value(font, "p0 " + least + "s p0 q " + least + "="), 1);
    Check.same("the greatest one too", value(font, "p7 " + least + "p1 + ~ s p7 q " + least + "+"), -1);
    Check.same("stored apart", value(font, "p0 p3 s p7 p4 s p0 q p7 q - p1 q +"), -1);
  }

  /** t * 11585 >> 14 of -1 is -1, of 1 it is 0. */
  private static void putBelow0() {
    HintForge font = fontAt(0, 0);
    font.addNumber(0);
    String put = " w p2 M p2 F R5 p0 Z p7 p0 i ";
    Check.same("-1 is put to -1", value(font, "p0 p-1" + put + "p0 M p7 G p1 Z"), -1);
    Check.same("in y", value(font, "p0 p-1" + put + "p1 M p7 G p1 Z"), -1);
    Check.same("1 is put to 0", value(font, "p0 p1" + put + "p0 M p7 G p1 Z"), 0);
    Check.same("100 is put to 70", value(font, "p0 p100" + put + "p1 M p7 G p1 Z"), 70);
    String three = " w p3 M p3 F R5 p0 Z p7 p0 i ";
    // 100 * -11585 >> 14 is -71; (70, -71) measures 100, so that it stays.
    Check.same("100 on 3", value(font, "p0 p100" + three + "p1 M p7 G p1 Z"), -71);
    Check.same("100 on 3, x", value(font, "p0 p100" + three + "p0 M p7 G p1 Z"), 70);
    String one = " w p1 M p1 F R0 p0 Z p7 p0 i ";
    Check.same("rounded in the zone 0", value(font, "p0 p100" + one + "p1 M p7 G p1 Z"), 128);
    // It is at first at 100: k moves by 28.
    Check.same("as it was at first", value(font, "p0 p100" + one + "p1 M p6 k p6 G p1 Z"), 28);
    Check.same("other points stay", value(font, "p0 p100" + one + "p1 M p6 G p0 M p6 G p7 G + + p1 Z"), 0);
    Check.same("put again", value(font, "p0 p100" + one + "p0 p10 w p7 p0 i p1 M p7 G p1 Z"), 0);
  }

  private static void distance(String way, int units, int due) {
    HintForge font = fontAt(40, 0, 40 + units, 0);
    Fonts.program(font, 0, way + " p1 r");
    Check.same(way + " r of " + units, font.pointX(0, 1, true) - 64, due);
  }

  /** 5 units are 8 64ths. */
  private static void distances() {
    distance("R0", 60, 128);
    distance("R0", -60, -128);
    distance("R0", 55, 64);
    distance("R0", -55, -64);
    distance("R0", 20, 64);
    distance("R0", -20, -64);
    distance("R0", 5, 64);
    distance("R0", -5, -64);
    distance("R0", 0, 64);
    distance("R1", 40, 96);
    distance("R1", 35, 64);
    distance("R1", -40, -96);
    distance("R1", -5, -64);
    distance("R2", 50, 96);
    distance("R2", -50, -96);
    distance("R2", 45, 64);
    distance("R3", 40, 64);
    distance("R3", 45, 128);
    distance("R3", -45, -128);
    distance("R3", -40, -64);
    distance("R4", 75, 64);
    distance("R4", -75, -64);
    distance("R4", 80, 128);
    distance("R4", -80, -128);
    distance("R4", -5, -64);
    distance("R5", 40, 64);
    distance("R5", 45, 72);
    distance("R5", 35, 64);
    distance("R5", -35, -64);
    distance("R5", -45, -72);
  }

  private static void between() {
    HintForge font = fontAt(0, 0, 100, 0, 5, 0, -5, 0, 105, 0, 50, 0);
    String set = "p1 H p5 D p0 S1 p1 S2 ";
    // 8 * 165 / 160 is 8.25, -8.25 is cut to -8, 168 and 80 give 173.25 and 82.5.
    points(font, set + "p2 b p3 b p4 b p5 b", "0 165 8 -8 173 82 0 0");
    points(font, "p1 H p5 D p1 S1 p0 S2 p2 b p3 b p4 b p5 b", "0 165 9 -8 173 83 0 0");
    points(font, set + "p0 b p1 b", "0 165 8 -8 168 80 0 0");
    // Equal at first: by as much as the reference 1 moved.
    points(font, "p0 H p7 D p0 S1 p0 S2 p2 b", "7 160 15 -8 168 80 0 0");
    points(font, "p0 H p7 D p6 H p9 D p0 S1 p6 S2 p2 b", "7 160 15 -8 168 80 9 0");
    points(font, "p0 H p7 D p6 H p9 D p6 S1 p0 S2 p2 b", "7 160 17 -8 168 80 9 0");
    // From where it is: 80 is moved to 1 first, and goes to 82 all the same.
    points(font, "p1 H p5 D p5 H p-79 D p0 S1 p1 S2 p5 b", "0 165 8 -8 168 82 0 0");
  }

  /** Points at 0, 8, 16, 24 and 32; the reference asked for is moved by another number each time. */
  private static void referencesOfEach() {
    HintForge font = fontAt(0, 0, 5, 0, 10, 0, 15, 0, 20, 0, 40, 0);
    font.addNumber(40);
    String moves = "R5 p0 H p1 D p1 H p2 D p2 H p4 D ";
    points(font, moves + "p1 S0 p0 S1 p0 S2 p3 k", "1 10 20 26 32 64 0 0");
    points(font, moves + "p1 S0 p0 S1 p0 S2 p3 l", "1 10 20 10 32 64 0 0");
    points(font, moves + "p1 S0 p0 S1 p0 S2 p3 r", "1 10 20 74 32 64 0 0");
    // Between 8, now 10, and 16, now 20: 24 goes to 10 + 16 * 10 / 8.
    points(font, moves + "p0 S0 p1 S1 p2 S2 p3 b", "1 10 20 30 32 64 0 0");
    // m sets 0 and 1: k by 2; b between 8 and 16; the reference 2 stays.
    points(font, moves + "p2 S0 p0 S1 p2 S2 p1 m p3 k p4 b", "1 10 20 26 40 64 0 0");
    // i sets 0 and 1, too: 64 is 54 from 10, so that 8 goes to 64, by 56.
    points(font, moves + "p2 S0 p0 S1 p2 S2 p1 p0 i p3 k p4 b", "1 64 20 80 -68 64 0 0");
    // r sets 1 to the reference 0, 2 to its point, and leaves 0: 16 is 64 from 2, and 24 between.
    points(font, moves + "p0 S0 p4 S1 p4 S2 p2 r p3 b p4 k", "1 10 65 97 33 64 0 0");
    points(font, moves + "p2 S0 p3 k p3 l p3 S1 p3 S2 p4 k", "1 10 20 20 36 64 0 0");
    // S sets what is told alone.
    points(font, moves + "p1 S1 p2 S2 p3 k", "1 10 20 25 32 64 0 0");
  }

  private static void spread(int units, int p, int q, int due) {
    HintForge font = fontAt(0, 0, units, 0, 100, 0);
    Fonts.program(font, 0, "p0 H p" + p + " D p2 H p" + q + " D p0 I");
    int shift = font.pointX(0, 1, true) - font.pointX(0, 1, false);
    Check.same("spread of " + units + " by " + p + " and " + q, shift, due);
    HintForge back = fontAt(100, 0, units, 0, 0, 0);
    Fonts.program(back, 0, "p0 H p" + q + " D p2 H p" + p + " D p0 I");
    int other = back.pointX(0, 1, true) - back.pointX(0, 1, false);
    Check.same("spread back of " + units + " by " + p + " and " + q, other, due);
  }

  /** Between 0 and 160, in 64ths. */
  private static void spreading() {
    spread(-5, 3, 9, 3);
    spread(0, 3, 9, 3);
    spread(5, 3, 9, 3);
    spread(100, 3, 9, 9);
    spread(105, 3, 9, 9);
    spread(95, 3, 9, 9);
    spread(50, 3, 9, 6);
    spread(50, 0, 5, 3);
    spread(50, 0, -5, -2);
    spread(50, 5, 0, 3);
    spread(50, -5, 0, -2);
    spread(30, 0, 7, 2);
    spread(30, 0, -7, -2);
    spread(25, 0, 10, 3);
    spread(25, 0, -10, -2);
    spread(25, 10, 0, 8);
    spread(25, -10, 0, -7);
    spread(50, 4, 4, 4);
    HintForge font = fontAt(0, 0, 50, 50, 0, 100);
    points(font, "p0 H p5 D p2 H p9 D p0 I", "5 80 9 0 0");
    points(font, "p0 H p5 D p2 H p5 D p0 I", "5 85 5 0 0");
  }

  private static void spreadContours() {
    HintForge font = Fonts.atSize25();
    Fonts.glyph(font, 0, 0, 0, 50, 0, 100, 0, 75, 0);
    Fonts.contour(font, 0, 50, 0);
    Fonts.contour(font, 0, 50, 0, 60, 0);
    font.addPoint(0, 25, 0, true);
    // Round the contour: 75 is between the last touched one ahead, 100, and the next one, 0.
    points(font, "p0 H p8 D p2 H p16 D p0 I", "8 92 176 134 80 80 96 40 0 0");
    points(font, "p1 H p8 D p3 H p16 D p0 I", "8 88 176 136 80 80 96 40 0 0");
    points(font, "p3 H p8 D p0 I", "8 88 168 128 80 80 96 40 0 0");
    points(font, "p6 H p8 D p0 I", "0 80 160 120 80 88 104 40 0 0");
    points(font, "p4 H p8 D p7 H p9 D p0 I", "0 80 160 120 88 80 96 49 0 0");
    points(font, "p8 H p8 D p9 H p9 D p0 I", "0 80 160 120 80 80 96 40 8 9");
    points(font, "p0 H p8 D p1 H p9 D p2 H p10 D p0 I", "8 89 170 130 80 80 96 40 0 0");
    points(font, "p0 I", "0 80 160 120 80 80 96 40 0 0");
    points(font, "p0 H p8 D p1 I", "8 80 160 120 80 80 96 40 0 0");
  }

  /** Which moves touch, in x or in y, is told by what I moves with them. */
  private static void touched() {
    HintForge font = fontAt(0, 0, 50, 50);
    String set = "p0 H p8 D ";
    points(font, set + "p1 H p0 D p0 I", "8 80 0 0");
    points(font, set + "p1 p24 p0 D p0 I", "8 88 0 0");
    points(font, set + "R5 p1 m p0 I", "8 80 0 0");
    points(font, set + "p1 M p1 F R5 p1 m p0 I", "8 88 0 0");
    points(font, set + "p2 M p2 F R5 p1 m p0 I", "8 80 0 0");
    points(font, set + "p3 M p3 F R5 p1 m p0 I", "8 80 0 0");
    points(font, set + "p1 S0 p1 l p0 I", "8 80 0 0");
    points(font, set + "p0 I p0 I", "8 96 0 0");
    points(font, set + "p0 Z p1 m p1 Z p0 I", "8 88 0 0");
    Fonts.program(font, 0, "p2 M p2 F p0 H p20 D p0 I p1 I");
    Check.same("touched in both", Fonts.x(font, 0) + ", " + Fonts.y(font, 0), "14 94 0 0, 14 94 0 0");
    Fonts.program(font, 0, "p3 M p3 F p0 H p20 D p0 I p1 I");
    Check.same("touched in both on 3", Fonts.x(font, 0) + ", " + Fonts.y(font, 0), "14 94 0 0, -14 66 0 0");
  }

  private static void scaledTable() {
    HintForge font = fontAt(0, 0);
    font.addNumber(7);
    font.addNumber(-7);
    for (int[] due : new int[][] {{4, 2, -2}, {12, 5, -5}, {25, 11, -11}, {32, 14, -14}}) {
      font.setSize(due[0]);
      Check.same("7 at size " + due[0], value(font, "p0 v"), due[1]);
      Check.same("-7 at size " + due[0], value(font, "p1 v"), due[2]);
      Check.same("the size " + due[0], value(font, "H"), due[0]);
    }
    HintForge varied = fontAt(0, 0);
    varied.addNumber(10);
    varied.addRegion(0, 100, 0);
    varied.setDelta(0, 0, -1, 500, 0);
    varied.setAxis(0, 100);
    Check.same("numbers do not vary", value(varied, "p0 v"), 16);
  }

  private static void hintedOrNot() {
    HintForge font = fontAt(25, 30);
    Check.same("no program", font.pointX(0, 0, true), 40);
    font.addInstruction(0, 'R', 1);
    font.addInstruction(0, 'p', 0);
    Check.same("two steps", font.steps(0), 2);
    font.addInstruction(0, 'm', 0);
    Check.same("hinted", font.pointX(0, 0, true), 32);
    Check.same("not in y", font.pointY(0, 0, true), 48);
    Check.same("scaled", font.pointX(0, 0, false), 40);
    font.setHinting(false);
    Check.same("hinting off", font.pointX(0, 0, true), 40);
    Check.same("three steps all the same", font.steps(0), 3);
    Check.same("no fault", font.fault(0), '-');
    font.setHinting(true);
    font.clearProgram(0);
    Check.same("program taken away", font.pointX(0, 0, true), 40);
    Check.same("no step", font.steps(0), 0);
    Fonts.program(font, 0, "C0");
    Check.same("one instruction with a fault", font.fault(0), 'r');
    Fonts.function(font, "R1 p0 m");
    Check.same("one instruction without one", font.pointX(0, 0, true), 32);
  }
}
