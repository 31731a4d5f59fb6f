/**
 * Each fault of the machine, and the last instruction, call, push, place, point and coordinate that
 * is not yet one.
 */
public final class FaultEdgesTest {
  private static final String LEAST = "p-32768 p32768 p8192 * * ";
  private static final String GREATEST = LEAST + "p1 + ~ ";
  private static final int[] FAR_FROM_ALL = {-1, Integer.MIN_VALUE, Integer.MAX_VALUE};

  private FaultEdgesTest() {
  }

  public static void main(String[] args) {
    nothingToPop();
    stackOf24();
    lastPoint();
    lastPointOfTheZone0();
    lastPlace();
    lastOfEach();
    divisionsBy0();
    directionsAcross();
    numbersAtTheEndsOfTheInts();
    coordinatesAtAMillion();
    otherMovesAtAMillion();
    lastInstruction();
    lastCall();
    lastJump();
    whatIsLookedAtFirst();
    faultsUndoAll();
    Check.end("FaultEdgesTest");
  }

  /** One point at 0, 0; the begin and the end; a table of one number. */
  private static HintForge font() {
    HintForge font = Fonts.atSize25();
    Fonts.glyph(font, 0, 0, 0);
    font.addNumber(5);
    return font;
  }

  private static char faultOf(HintForge font, String tokens) {
    Fonts.program(font, 0, tokens);
    return font.fault(0);
  }

  private static void due(String tokens, char fault) {
    Check.same(tokens, faultOf(font(), tokens), fault);
  }

  /** An int as tokens, also one that 'p' cannot push. */
  private static String pushed(int number) {
    return number == Integer.MIN_VALUE ? LEAST : number == Integer.MAX_VALUE ? GREATEST : "p" + number + " ";
  }

  /** What an instruction pops is there, then the lowest of it is missing: with good and bad numbers. */
  private static void nothingToPop() {
    String one = "d o ~ M F Z S0 S1 S2 m r k l b I v q G c1";
    for (String kind : one.split(" ")) {
      due("p0 " + kind, '-');
      due(kind, 'u');
      due("p0 o " + kind, 'u');
    }
    for (String kind : "x + - * < = i w s".split(" ")) {
      due("p0 p0 " + kind, '-');
      due("p0 " + kind, 'u');
      due("p99 " + kind, 'u');
      due(kind, 'u');
    }
    due("p0 p1 /", '-');
    due("p1 /", 'u');
    due("p0 /", 'u');
    due("/", 'u');
    due("p0 p0 p0 D", '-');
    due("p0 p0 D", 'u');
    due("p99 p99 D", 'u');
    due("p25 D", 'u');
    due("D", 'u');
    due("p H R0 R5 j1 e", '-');
  }

  private static void stackOf24() {
    String twentyThree = "p0 ".repeat(23);
    for (String push : "p1 d H p-99999".split(" ")) {
      due(twentyThree + push, '-');
      due(twentyThree + push + " " + push, 'o');
    }
    String twentyFour = twentyThree + "p0 ";
    for (String kind : "x + - * < = ~ G v q".split(" ")) {
      due(twentyFour + kind, '-');
      due(twentyFour + kind + " p0", kind.matches("[x~Gvq]") ? 'o' : '-');
    }
    due(twentyFour + "o p1", '-');
    due(twentyFour + "o p1 p1", 'o');
    HintForge font = font();
    Check.same("a push in a function", faultOf(withFunctions(font, "p1"), twentyFour + "C0"), 'o');
    Check.same("its step", font.steps(0), 26);
    Check.same("is not exact reckoning", font.isExact(0), false);
    Check.same("the 24th in a function", faultOf(font, twentyThree + "C0"), '-');
  }

  private static HintForge withFunctions(HintForge font, String... rows) {
    for (String row : rows) {
      Fonts.function(font, row);
    }
    return font;
  }

  private static String pointUser(String kind, String point) {
    return kind.equals("i") ? point + "p0 i" : kind.equals("D") ? point + "H p0 D" : point + kind;
  }

  private static void lastPoint() {
    for (String kind : "S0 S1 S2 m i r k l b D G".split(" ")) {
      for (int point = 0; point < 3; point++) {
        due(pointUser(kind, pushed(point)), '-');
      }
      due(pointUser(kind, pushed(3)), 'r');
      for (int far : FAR_FROM_ALL) {
        due(pointUser(kind, pushed(far)), 'r');
      }
    }
    // Also with another size, the point must be there.
    due("p2 p24 p0 D", '-');
    due("p3 p24 p0 D", 'r');
    due("p-1 p24 p0 D", 'r');
    HintForge bare = Fonts.atSize25();
    bare.addGlyph(0);
    bare.addNumber(5);
    for (String kind : "S0 S1 S2 m i r k l b D G".split(" ")) {
      Check.same("the end, of 2 points: " + kind, faultOf(bare, pointUser(kind, "p1 ")), '-');
      Check.same("point 2 of 2: " + kind, faultOf(bare, pointUser(kind, "p2 ")), 'r');
    }
  }

  private static void lastPointOfTheZone0() {
    for (String kind : "S0 S1 S2 m i r k l b D G".split(" ")) {
      for (int point : new int[] {0, 3, 7}) {
        due("p0 Z " + pointUser(kind, pushed(point)), '-');
      }
      due("p0 Z " + pointUser(kind, "p8 "), 'r');
      due("p0 Z " + pointUser(kind, "p-1 "), 'r');
      due("p0 Z p1 Z " + pointUser(kind, "p3 "), 'r');
    }
    due("p0 Z p7 S0 p0 k", '-');
    due("p0 Z p7 S0 p1 Z p0 k", 'r');
    due("p0 Z p7 S0 p1 Z p0 l", 'r');
    due("p0 Z p7 S0 p1 Z p0 r", 'r');
    due("p0 Z p7 S1 p1 Z p0 b", 'r');
    due("p0 Z p7 S2 p1 Z p0 b", 'r');
    due("p0 Z p7 S1 p7 S2 p1 Z p0 r p0 k p0 l", '-');
    due("p0 Z p7 S0 p1 Z p0 S0 p0 k", '-');
  }

  private static void lastPlace() {
    for (int count = 0; count <= 16; count += 4) {
      HintForge font = Fonts.atSize25();
      Fonts.glyph(font, 0, 0, 0);
      for (int i = 0; i < count; i++) {
        font.addNumber(0);
      }
      for (String use : new String[] {"v", "p1 w", "i"}) {
        for (int place = 0; place < count; place++) {
          Check.same(use + " of " + place, faultOf(font, "p0 p" + place + " " + use), '-');
        }
        Check.same(use + " of " + count, faultOf(font, "p0 p" + count + " " + use), 'r');
        for (int far : FAR_FROM_ALL) {
          Check.same(use + " of " + far, faultOf(font, "p0 " + pushed(far) + use), 'r');
        }
      }
    }
    for (int place = 0; place < 8; place++) {
      due("p" + place + " p1 s", '-');
      due("p" + place + " q", '-');
    }
    for (int place : new int[] {8, -1, Integer.MIN_VALUE, Integer.MAX_VALUE}) {
      due(pushed(place) + "p1 s", 'r');
      due(pushed(place) + "q", 'r');
    }
  }

  private static void lastOfEach() {
    for (int vector = 0; vector < 4; vector++) {
      due("p" + vector + " M", '-');
      due("p" + vector + " F", '-');
    }
    for (int none : new int[] {4, -1, Integer.MIN_VALUE, Integer.MAX_VALUE}) {
      due(pushed(none) + "M", 'r');
      due(pushed(none) + "F", 'r');
    }
    for (int either = 0; either < 2; either++) {
      due("p" + either + " Z", '-');
      due("p" + either + " I", '-');
    }
    for (int none : new int[] {2, -1, Integer.MIN_VALUE, Integer.MAX_VALUE}) {
      due(pushed(none) + "Z", 'r');
      due(pushed(none) + "I", 'r');
    }
    HintForge font = font();
    for (int count = 0; count < 4; count++) {
      Check.same("no function " + count, faultOf(font, "C" + count), 'r');
      Check.same("added", font.addFunction(), count);
      Check.same("function " + count, faultOf(font, "C" + count), '-');
    }
  }

  private static void divisionsBy0() {
    due("p5 p0 /", 'z');
    due("p0 p0 /", 'z');
    due("p-5 p0 /", 'z');
    due(LEAST + "p0 /", 'z');
    due("p0 p1 /", '-');
    due("p5 p-1 /", '-');
    HintForge font = font();
    faultOf(font, "p5 p0 /");
    Check.same("is no exact reckoning", font.isExact(0), false);
  }

  private static void directionsAcross() {
    for (int measuring = 0; measuring < 4; measuring++) {
      for (int moving = 0; moving < 4; moving++) {
        boolean isAcross = measuring + moving == 1 || measuring + moving == 5 && measuring != moving;
        String set = "p" + measuring + " M p" + moving + " F ";
        for (String kind : "m i r k l b D".split(" ")) {
          due(set + pointUser(kind, "p0 "), isAcross ? 'z' : '-');
        }
        due(set + "p0 p24 p1 D", '-');
        due(set + "p0 G p0 S0 p0 I p1 I", '-');
      }
    }
    HintForge font = font();
    faultOf(font, "p1 F p0 m");
    Check.same("is no exact reckoning either", font.isExact(0), false);
  }

  private static void exact(String tokens, boolean isBeyond) {
    HintForge font = font();
    Check.same(tokens, faultOf(font, tokens), isBeyond ? 'a' : '-');
    Check.same(tokens + " is exact", font.isExact(0), isBeyond);
  }

  private static void numbersAtTheEndsOfTheInts() {
    exact(GREATEST + "p0 +", false);
    exact(GREATEST + "p1 +", true);
    exact("p1 " + GREATEST + "+", true);
    exact(GREATEST + "p-1 -", true);
    exact(GREATEST + "p0 -", false);
    exact(LEAST + "p0 -", false);
    exact(LEAST + "p1 -", true);
    exact(LEAST + "p-1 +", true);
    exact(LEAST + "p0 +", false);
    exact("p-1 " + GREATEST + "-", false);
    exact("p-2 " + GREATEST + "-", true);
    exact("p-1 " + LEAST + "-", false);
    exact("p0 " + LEAST + "-", true);
    exact(GREATEST + "p64 *", false);
    exact(GREATEST + "p65 *", true);
    exact(GREATEST + "p-64 *", false);
    exact(GREATEST + "p-65 *", true);
    exact(LEAST + "p64 *", false);
    exact(LEAST + "p65 *", true);
    exact(LEAST + "p-64 *", true);
    exact(LEAST + "p-63 *", false);
    exact(LEAST + "d *", true);
    exact(GREATEST + "p64 /", false);
    exact(GREATEST + "p63 /", true);
    exact(GREATEST + "p-63 /", true);
    exact(LEAST + "p64 /", false);
    exact(LEAST + "p63 /", true);
    exact(LEAST + "p-64 /", true);
    exact(LEAST + "p-65 /", false);
    exact(GREATEST + "~", false);
    exact(LEAST + "~", true);
    exact(LEAST + "d <", false);
    exact(LEAST + "d =", false);
    HintForge font = font();
    Fonts.program(font, 0, "p0 H " + GREATEST + LEAST + "+ D");
    Check.same("the greatest and the least int", font.pointX(0, 0, true), -1);
    Fonts.program(font, 0, "p0 H " + LEAST + GREATEST + "< D");
    Check.same("the least is less", font.pointX(0, 0, true), 1);
    Fonts.program(font, 0, "p0 H " + GREATEST + LEAST + "< D");
    Check.same("the greatest is not less", font.pointX(0, 0, true), 0);
  }

  /** Moves the point 0 by thousands and a rest, as 'p' pushes less than 100000. */
  private static String moveBy(int distance) {
    return "p0 H p64000 p" + distance / 1000 + " * p" + distance % 1000 + " + D ";
  }

  private static void coordinatesAtAMillion() {
    HintForge font = font();
    for (String way : new String[] {"", "p1 M p1 F "}) {
      Check.same("a million", faultOf(font, way + moveBy(1000000)), '-');
      Check.same("is there", font.pointX(0, 0, true) + font.pointY(0, 0, true), 1000000);
      Check.same("a million and 1", faultOf(font, way + moveBy(1000001)), 'a');
      Check.same("is exact no more", font.isExact(0), false);
      Check.same("is not there", font.pointX(0, 0, true) + font.pointY(0, 0, true), 0);
      Check.same("less a million", faultOf(font, way + moveBy(-1000000)), '-');
      Check.same("is there below 0", font.pointX(0, 0, true) + font.pointY(0, 0, true), -1000000);
      Check.same("less a million and 1", faultOf(font, way + moveBy(-1000001)), 'a');
      Check.same("by 0 from a million", faultOf(font, way + moveBy(1000000) + "p0 H p0 D"), '-');
      Check.same("by 1 from a million", faultOf(font, way + moveBy(1000000) + "p0 H p1 D"), 'a');
      Check.same("by the greatest int", faultOf(font, way + "p0 H " + GREATEST + "D"), 'a');
      Check.same("by the least int", faultOf(font, way + "p0 H " + LEAST + "D"), 'a');
      Check.same("and back from it", faultOf(font, way + "p0 H " + LEAST + "p1 + D"), 'a');
    }
    // On vector 3, 1414157 * 11585 / 16383 is cut to 1000000, and 1 more to 1000001.
    Check.same("both at a million", faultOf(font, "p3 M p3 F " + moveBy(1414157)), '-');
    Check.same("x and y", font.pointX(0, 0, true) + " " + font.pointY(0, 0, true), "1000000 -1000000");
    Check.same("both outside", faultOf(font, "p3 M p3 F " + moveBy(1414158)), 'a');
    String left = "p0 H p-9 D ";
    String up = "p1 M p1 F p0 H p9 D ";
    Check.same("y outside alone", faultOf(font, left + "p3 M p3 F " + moveBy(1414158)), 'a');
    Check.same("x outside alone", faultOf(font, up + "p3 M p3 F " + moveBy(1414158)), 'a');
    Check.same("neither", faultOf(font, left + up + "p3 M p3 F " + moveBy(1414158)), '-');
  }

  private static void otherMovesAtAMillion() {
    HintForge font = Fonts.atSize25();
    Fonts.glyph(font, 0, 0, 0, 5, 0, 0, 5);
    font.addNumber(0);
    String far = moveBy(1000000);
    Check.same("m to the grid", faultOf(font, far + "p0 m"), '-');
    Check.same("m to a half", faultOf(font, far + "R1 p0 m"), 'a');
    Check.same("m to a half below", faultOf(font, moveBy(999999) + "R1 p0 m"), '-');
    Check.same("k of the point at 0", faultOf(font, far + "p0 S0 p2 k"), '-');
    Check.same("k of the point at 8", faultOf(font, far + "p0 S0 p1 k"), 'a');
    Check.same("l", faultOf(font, far + "p0 S0 p1 l p2 l p4 l"), '-');
    Check.same("r", faultOf(font, far + "p0 S0 p1 r"), 'a');
    Check.same("r from 64 less", faultOf(font, moveBy(999936) + "p0 S0 p1 r"), '-');
    Check.same("r from 63 less", faultOf(font, moveBy(999937) + "p0 S0 p1 r"), 'a');
    Check.same("b of the point at 0", faultOf(font, far + "p0 S1 p0 S2 p2 b"), '-');
    Check.same("b of the point at 8", faultOf(font, far + "p0 S1 p0 S2 p1 b"), 'a');
    Check.same("I", faultOf(font, far + "p0 I"), 'a');
    font.movePoint(0, 1, 0, 7);
    Check.same("I to a million", faultOf(font, far + "p0 I"), '-');
    Check.same("at a million", font.pointX(0, 1, true), 1000000);
    Check.same("I below", faultOf(font, moveBy(-1000000) + "p0 I"), '-');
    font.movePoint(0, 1, -5, 7);
    Check.same("I further below", faultOf(font, moveBy(-1000000) + "p0 I"), 'a');
    Check.same("I of y is not", faultOf(font, moveBy(-1000000) + "p1 I"), '-');
    String number = "p0 p64000 p1000 * p";
    Check.same("i in the zone 0", faultOf(font, number + "0 + w R5 p0 Z p7 p0 i"), '-');
    Check.same("i in the zone 0, further", faultOf(font, number + "1 + w R5 p0 Z p7 p0 i"), 'a');
    Check.same("i in the zone 0, in y", faultOf(font, "p1 M p1 F " + number + "1 + w R5 p0 Z p7 p0 i"), 'a');
    // Rounded to the grid it would be back at a million.
    Check.same("i in the zone 0, put outside", faultOf(font, number + "9 + w p0 Z p7 p0 i"), 'a');
    Check.same("i, too far to be put", faultOf(font, number + "500 + w p0 p0 i"), '-');
  }

  private static void lastInstruction() {
    HintForge font = font();
    // 1 and 99 times 4 are 397.
    String loop = "p99 p-1 + d c-3 ";
    Check.same("399", faultOf(font, loop + "o p1"), '-');
    Check.same("399 steps", font.steps(0), 399);
    Check.same("400", faultOf(font, loop + "o p1 o"), '-');
    Check.same("400 steps", font.steps(0), 400);
    Check.same("401", faultOf(font, loop + "o p1 o e"), 'b');
    Check.same("401 count 400", font.steps(0), 400);
    Check.same("402", faultOf(font, loop + "o p1 o p1 o"), 'b');
    Check.same("400 still", font.steps(0), 400);
    Check.same("the 400th ends it", faultOf(font, loop + "o p1 e p1"), '-');
    Check.same("with 400", font.steps(0), 400);
    Check.same("the 400th has another fault", faultOf(font, loop + "o o o"), 'u');
    Check.same("with 399", font.steps(0), 399);
    Check.same("the 400th has a fault", faultOf(font, loop + "o p1 R0 o"), 'b');
    Check.same("the 401st would have another one", faultOf(font, loop + "o R0 R0 o"), 'b');
    Check.same("the 400th jumps to the end", faultOf(font, loop + "o R0 j1"), '-');
    Check.same("the 400th jumps ahead of the begin", faultOf(font, loop + "o R0 j-8"), 'j');
    withFunctions(font, "R0 R1", "");
    Check.same("the 400th calls an empty one", faultOf(font, loop + "o R0 C1"), '-');
    Check.same("its 400 steps", font.steps(0), 400);
    Check.same("the 400th in a function", faultOf(font, loop + "C0"), '-');
    Check.same("the 400 steps of it", font.steps(0), 400);
    Check.same("the 401st in a function", faultOf(font, loop + "o C0"), 'b');
    Check.same("the 401st behind a function", faultOf(font, loop + "C0 o"), 'b');
    Check.same("the 400 steps ahead of it", font.steps(0), 400);
    Check.same("for ever", faultOf(font, "j0"), 'b');
    Check.same("for ever is 400", font.steps(0), 400);
    Check.same("400 are not exact reckoning", font.isExact(0), false);
  }

  private static void lastCall() {
    // Each call takes 1 off the top and calls again, unless it is 0 then.
    HintForge font = withFunctions(font(), "p-1 + d c2 e C0", "C2", "C3", "");
    for (int calls = 1; calls <= 6; calls++) {
      Check.same(calls + " calls", faultOf(font, "p" + calls + " C0"), '-');
      Check.same("steps of " + calls, font.steps(0), 2 + 5 * calls);
    }
    Check.same("7 calls", faultOf(font, "p7 C0"), 'b');
    // The seventh call is counted and does not begin.
    Check.same("steps of 7", font.steps(0), 2 + 5 * 6);
    Check.same("one after the other", faultOf(font, "C1 C1 C1 C1 C1 C1 C1 C1"), '-');
    Check.same("6 calls, then another", faultOf(font, "p6 C0 C3"), '-');
    Check.same("6 calls twice", faultOf(font, "p6 C0 p6 C0"), '-');
    HintForge without = withFunctions(font(), "p-1 + d c2 j2 C0 d c2 C1");
    Check.same("no function ahead of the depth", faultOf(without, "p6 C0"), 'r');
  }

  private static void lastJump() {
    due("R0 R1 j-2", 'b');
    due("R0 R1 j-3", 'j');
    due("j1", '-');
    due("j2", 'j');
    due("j60", 'j');
    due("j-1", 'j');
    due("j-60", 'j');
    due("j2 o", '-');
    due("j3 o", 'j');
    due("p1 c1", '-');
    due("p1 c2", 'j');
    due("p-1 c2", 'j');
    due("p0 c2", '-');
    due("p1 c-1", 'b');
    due("p1 c-2", 'j');
    due("p0 c-2", '-');
    due("p0 c60 p0 c-60", '-');
    HintForge font = withFunctions(font(), "R0 j1", "R0 j2", "j-1", "p-1 + d c-3");
    Check.same("to the end of a function", faultOf(font, "C0"), '-');
    Check.same("its steps", font.steps(0), 3);
    Check.same("further than the end of a function", faultOf(font, "C1 R0 R0"), 'j');
    Check.same("ahead of a function", faultOf(font, "R0 R0 C2 R0"), 'j');
    Check.same("the step ahead of it", font.steps(0), 4);
    Check.same("to the begin of a function", faultOf(font, "p2 C3"), '-');
    Check.same("the steps of twice", font.steps(0), 2 + 2 * 4);
    StringBuilder sixty = new StringBuilder("j60");
    for (int i = 1; i < 60; i++) {
      sixty.append(" o");
    }
    due(sixty.toString(), '-');
  }

  private static void whatIsLookedAtFirst() {
    due("p1 F p9 m", 'r');
    due("p1 F p0 p9 i", 'r');
    due("p1 F p9 p0 i", 'r');
    due("p1 F p9 H p0 D", 'r');
    due("p1 F p0 Z p7 S0 p1 Z p0 r", 'r');
    due("p1 F p0 Z p7 S0 p1 Z p0 k", 'r');
    due("p1 F p0 Z p7 S1 p1 Z p0 b", 'r');
    due("p5 c60", 'j');
    due("c60", 'u');
    due("p99 s", 'u');
    due("p99 w", 'u');
  }

  private static void faultsUndoAll() {
    HintForge font = Fonts.atSize25();
    Fonts.glyph(font, 90, 25, 30, 35, 45);
    String moves = "p0 m p1 M p1 F p0 m p1 I p3 H p99 D ";
    Fonts.program(font, 0, moves);
    Check.same("moved", Fonts.x(font, 0) + ", " + Fonts.y(font, 0), "64 56 0 144, 64 88 0 99");
    for (String end : "o p9~m p8~q p5~p0~/ j9 C0 j0".split(" ")) {
      Fonts.program(font, 0, moves + end.replace('~', ' '));
      Check.same("as at first after " + end, Fonts.x(font, 0) + ", " + Fonts.y(font, 0), "40 56 0 144, 48 72 0 0");
      Check.same("advance after " + end, font.advance(0, true), 128);
    }
  }
}
