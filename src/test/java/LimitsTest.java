/**
 * Each bound of what a font can hold: the last one that fits has its effect, and where there is
 * none, the answer is the one for none.
 */
public final class LimitsTest {
  private LimitsTest() {
  }

  public static void main(String[] args) {
    twelfthGlyph();
    fortiethPoint();
    eightyPoints();
    thirdPart();
    thirdRegion();
    sixtiethInstruction();
    thirtiethInstructionOfTheFourthFunction();
    sixteenthNumber();
    fourthLayer();
    twentiethOfTheText();
    nothingThere();
    contoursAreCounted();
    partsInCircles();
    deepParts();
    widths();
    classesOfAPair();
    shares();
    Check.end("LimitsTest");
  }

  private static void twelfthGlyph() {
    HintForge font = Fonts.atSize25();
    for (int i = 0; i < 11; i++) {
      font.addGlyph(0);
    }
    Check.same("the twelfth", Fonts.box(font, 0, 0, 80, 40), 11);
    Check.same("is drawn", font.rowOf(11, 8), 208);
    Check.same("is typed", font.type(11), 1);
    Check.same("is kept", font.keep(11, true), false);
    Check.same("has its advance", font.advance(11, false), 640);
    Check.same("has a number", font.numberOf(11), 0);
    Check.same("is the same", font.isSame(11), true);
    font.addPart(0, 11, 40, 0, 64);
    Check.same("is a part", font.rowOf(0, 8), 209);
    Check.same("no other one has it", font.pixels(1), 0);
  }

  private static void fortiethPoint() {
    HintForge font = Fonts.atSize25();
    font.addGlyph(0);
    for (int i = 0; i < 39; i++) {
      font.addPoint(0, -2000, 50 * i, true);
    }
    Check.same("a line", font.pixels(0), 0);
    Check.same("the fortieth", font.addPoint(0, 100, 0, true), 39);
    Check.same("makes it a triangle", font.rowOf(0, 8), 1000);
    Check.same("is ended", font.endContour(0), 1);
    font.addRegion(0, 100, 0);
    Check.same("has a delta", font.setDelta(0, 0, 39, 10, 0), 1);
    font.setAxis(0, 100);
    Check.same("which moves it", font.pointX(0, 39, false), 176);
    Check.same("and all of its contour", font.pointX(0, 0, false), -3184);
    for (int i = 0; i < 39; i++) {
      Check.same("deltas of all", font.setDelta(0, 0, i, 0, 0), i + 2);
    }
    Check.same("the fortieth one alone", font.pointX(0, 38, false) + font.pointX(0, 39, false), -3200 + 176);
    Check.same("x before", font.movePoint(0, 39, 0, 0), 100);
  }

  /** 80 points can be looked at in each way, 81 in none; points() counts them all the same. */
  private static void eightyPoints() {
    HintForge font = Fonts.atSize25();
    font.addGlyph(100);
    for (int i = 0; i < 39; i++) {
      font.addPoint(0, i, i, true);
    }
    font.addGlyph(100);
    for (int i = 0; i < 39; i++) {
      font.addPoint(1, i, i, true);
    }
    font.addPart(1, 0, 5, 5, 64);
    font.addColour(1, 1, 3);
    font.keep(1, true);
    font.type(1);
    Check.same("80", font.points(1), 80);
    Check.same("x", font.pointX(1, 77, true), 69);
    Check.same("y", font.pointY(1, 77, false), 69);
    Check.same("the end", font.pointX(1, 79, true), 160);
    Check.same("fault", font.fault(1), '-');
    Check.same("isExact", font.isExact(1), false);
    Check.same("steps", font.steps(1), 0);
    Check.same("pixel", font.pixel(1, 47, 47), false);
    Check.same("pixels", font.pixels(1), 0);
    Check.same("rowOf", font.rowOf(1, 47), 0);
    Check.same("isWound", font.isWound(1), true);
    Check.same("advance", font.advance(1, true), 192);
    Check.same("width", font.width(), 192);
    Check.same("colourAt", font.colourAt(1, 8, 8), 0);
    Check.same("isSame", font.isSame(1), true);
    Check.same("inkShare", font.inkShare(1), 0f);
    Check.same("meanAdvance", font.meanAdvance(), 192.0);
    // 224 less 1, and 224 and 1: on the grid 192 and 256.
    Fonts.program(font, 1, "p79 H p64 D p78 H p1 D");
    Check.same("the begin and the end move", font.advance(1, true), 192);
    Fonts.program(font, 1, "p79 H p64 D p78 H p-1 D");
    Check.same("the begin moves back", font.advance(1, true), 256);
    Fonts.program(font, 1, "p80 G");
    Check.same("there is no point 80", font.fault(1), 'r');
    font.addPoint(0, 0, 0, true);
    Check.same("81", font.points(1), 81);
    Check.raises("81 and x", Check.UNSUPPORTED, () -> font.pointX(1, 0, true));
    Check.raises("81 and colourAt", Check.UNSUPPORTED, () -> font.colourAt(1, 8, 8));
    Check.raises("81 and isSame", Check.UNSUPPORTED, () -> font.isSame(1));
    Check.raises("81 and width", Check.UNSUPPORTED, () -> font.width());
    Check.raises("81 and meanAdvance", Check.UNSUPPORTED, () -> font.meanAdvance());
    Check.same("its part has 42", font.pixels(0), 0);
    Check.same("81 are written", font.written(), 4 + 3 + 3 + 4 * 79 + 5 + 2 * 2 + 2);
    Check.same("81 are numbered", font.numberOf(1), 1);
    Check.same("the smaller one is the same", font.isSame(0), true);
  }

  private static void thirdPart() {
    HintForge font = Fonts.atSize25();
    Fonts.box(font, 0, 0, 40, 40);
    font.addGlyph(0);
    Check.same("one", font.addPart(1, 0, 0, 0, 64), 1);
    Check.same("two", font.addPart(1, 0, 80, 0, 64), 2);
    Check.same("three", font.addPart(1, 0, 160, 0, 128), 3);
    Check.same("points of all", font.points(1), 14);
    Check.same("all are drawn", DrawingTest.drawn(font, 1), "8.8 10.8 12.8 13.8 12.9 13.9");
    font.keep(1, true);
    Check.same("all are read", font.isSame(1), true);
    Check.same("all are written", font.written(), 4 + 3 + 16 + 3 + 15);
  }

  private static void thirdRegion() {
    HintForge font = Fonts.atSize25();
    Fonts.glyph(font, 0, 0, 0);
    for (int i = 0; i < 3; i++) {
      Check.same("region", font.addRegion(0, 100, 0), i);
      font.setDelta(0, i, 0, i == 2 ? 400 : 20 * i + 20, 0);
    }
    font.setAxis(0, 100);
    Check.same("all three", font.pointX(0, 0, false), 32 + 64 + 640);
    Check.raises("no region 3", Check.INDEX, () -> font.setDelta(0, 3, 0, 0, 0));
  }

  private static void sixtiethInstruction() {
    HintForge font = Fonts.atSize25();
    Fonts.glyph(font, 0, 25, 0);
    for (int i = 0; i < 58; i++) {
      font.addInstruction(0, 'R', 4);
    }
    font.addInstruction(0, 'p', 0);
    Check.same("59", font.pointX(0, 0, true), 40);
    Check.same("the sixtieth", font.addInstruction(0, 'm', 0), 60);
    Check.same("is done", font.pointX(0, 0, true), 0);
    Check.same("60 steps", font.steps(0), 60);
    font.keep(0, true);
    Check.same("all are written", font.written(), 4 + 3 + 4 + 120);
  }

  private static void thirtiethInstructionOfTheFourthFunction() {
    HintForge font = Fonts.atSize25();
    Fonts.glyph(font, 0, 25, 0);
    for (int i = 0; i < 4; i++) {
      Check.same("function", font.addFunction(), i);
    }
    for (int i = 0; i < 28; i++) {
      font.extendFunction(3, 'R', 4);
    }
    font.extendFunction(3, 'p', 0);
    font.addInstruction(0, 'C', 3);
    Check.same("29", font.pointX(0, 0, true), 40);
    Check.same("the thirtieth", font.extendFunction(3, 'm', 0), 30);
    Check.same("is done", font.pointX(0, 0, true), 0);
    Check.same("31 steps", font.steps(0), 31);
    Check.same("all are written", font.written(), 4 + 4 + 60);
  }

  private static void sixteenthNumber() {
    HintForge font = Fonts.atSize25();
    Fonts.glyph(font, 0, 0, 0);
    for (int i = 0; i < 16; i++) {
      Check.same("place", font.addNumber(5 * i), i);
    }
    Fonts.program(font, 0, "p0 H p15 v D");
    Check.same("the sixteenth", font.pointX(0, 0, true), 120);
    Check.same("all are written", font.written(), 4 + 16);
  }

  private static void fourthLayer() {
    HintForge font = Fonts.atSize25();
    for (int i = 0; i < 4; i++) {
      Fonts.box(font, 0, 0, 160 - 40 * i, 40);
    }
    font.addGlyph(0);
    for (int i = 0; i < 4; i++) {
      Check.same("layer", font.addColour(4, i, i == 0 ? 1 : i + 6), i + 1);
    }
    for (int i = 0; i < 4; i++) {
      Check.same("colour " + i, font.colourAt(4, 11 - i, 8), i == 0 ? 1 : i + 6);
    }
    Check.same("no colour", font.colourAt(4, 12, 8), 0);
    font.keep(4, true);
    Check.same("all are in the subset", font.subset(), 5);
    Check.same("all are written", font.written(), 4 + 5 * 3 + 4 * 16 + 4 * 2);
  }

  private static void twentiethOfTheText() {
    HintForge font = Fonts.atSize25();
    font.addGlyph(40);
    font.addGlyph(80);
    font.setClass(1, 1, 0);
    font.kern(0, 1, 5);
    for (int i = 1; i <= 19; i++) {
      Check.same("typed", font.type(0), i);
    }
    Check.same("19 of them", font.width(), 19 * 64);
    Check.same("the twentieth", font.type(1), 20);
    Check.same("20 of them, with a kerning", font.width(), 19 * 64 + 128 + 8);
    Check.same("their mean", font.meanAdvance(), (19 * 64 + 128) / 20.0);
    Check.same("taken away", font.clearText(), 20);
    Check.same("none", font.width(), 0);
    Check.raises("the mean of none", Check.ARITHMETIC, () -> font.meanAdvance());
    Check.same("none to take away", font.clearText(), 0);
  }

  private static void nothingThere() {
    HintForge font = Fonts.atSize25();
    Check.same("no subset", font.subset(), 0);
    Check.same("4 for the font", font.written(), 4);
    Check.same("no hit", font.hits(), 0);
    Check.same("no drawing", font.drawings(), 0);
    Check.same("no width", font.width(), 0);
    Check.raises("no mean", Check.ARITHMETIC, () -> font.meanAdvance());
    font.addGlyph(0);
    Check.same("two points", font.points(0), 2);
    Check.same("the begin", font.pointX(0, 0, true) + font.pointY(0, 0, true), 0);
    Check.same("the end", font.pointX(0, 1, true) + font.pointY(0, 1, true), 0);
    Check.same("no pixel", font.pixels(0), 0);
    Check.same("no row", font.rowOf(0, 0), 0);
    Check.same("no share", font.inkShare(0), 0f);
    Check.same("no colour", font.colourAt(0, 0, 0), 0);
    Check.same("no fault", font.fault(0), '-');
    Check.same("no step", font.steps(0), 0);
    Check.same("no instruction", font.clearProgram(0), 0);
    Check.same("no advance", font.advance(0, true), 0);
    Check.same("no glyph kept", font.subset(), 0);
    font.type(0);
    Check.same("a mean of 0", font.meanAdvance(), 0.0);
    Check.same("a width of 0", font.width(), 0);
  }

  private static void contoursAreCounted() {
    HintForge font = new HintForge();
    font.addGlyph(0);
    font.addGlyph(0);
    font.addPoint(0, 0, 0, true);
    font.endContour(0);
    font.addPart(1, 0, 0, 0, 64);
    Check.raises("a part's contour is none of its own", Check.STATE, () -> font.endContour(1));
    font.addPoint(1, 0, 0, true);
    Check.same("one own contour", font.endContour(1), 1);
    for (int i = 2; i <= 40; i++) {
      Check.same("point", font.addPoint(0, 0, 0, false), i - 1);
      Check.same("contour", font.endContour(0), i);
    }
    Check.raises("40 are ended", Check.STATE, () -> font.endContour(0));
  }

  private static void partsInCircles() {
    HintForge font = new HintForge();
    for (int i = 0; i < 12; i++) {
      font.addGlyph(0);
    }
    for (int i = 11; i > 0; i--) {
      font.addPart(i - 1, i, 0, 0, 64);
    }
    for (int i = 1; i < 12; i++) {
      int from = i;
      Check.raises("back to 0 from " + i, Check.UNSUPPORTED, () -> font.addPart(from, 0, 0, 0, 64));
      Check.raises("back to itself from " + i, Check.UNSUPPORTED, () -> font.addPart(from, from, 0, 0, 64));
      Check.raises("back by one from " + i, Check.UNSUPPORTED, () -> font.addPart(from, from - 1, 0, 0, 64));
    }
    Check.same("on to the last one", font.addPart(0, 11, 0, 0, 64), 2);
    // A layer is no part: it may go in a circle.
    Check.same("a layer back", font.addColour(11, 0, 1), 1);
    Check.same("a layer of itself", font.addColour(11, 11, 1), 2);
    Check.same("nothing to see", font.colourAt(11, 0, 0), 0);
    font.keep(5, true);
    Check.same("all are in the subset", font.subset(), 12);
    HintForge other = new HintForge();
    other.addGlyph(0);
    other.addGlyph(0);
    other.addColour(1, 0, 1);
    Check.same("what has it as a layer may be a part", other.addPart(0, 1, 0, 0, 64), 1);
  }

  /** Eleven levels of parts, each twice as large: 1 unit becomes 2048 and is still drawn. */
  private static void deepParts() {
    HintForge font = Fonts.atSize25();
    Fonts.box(font, 0, 0, 1, 1);
    for (int i = 1; i < 12; i++) {
      font.addGlyph(0);
      font.addPart(i, i - 1, 0, 0, 128);
    }
    Check.same("2048 units are 51.2 pixels", font.pointX(11, 2, false), 3277);
    Check.same("all from 8 on", font.pixels(11), 40 * 40);
    Check.same("1024 units are 25.6", font.pixels(10), 26 * 26);
    font.keep(11, true);
    Check.same("read again", font.isSame(11), true);
    Check.same("all of them", font.subset(), 12);
  }

  private static void widths() {
    HintForge font = Fonts.atSize25();
    font.addGlyph(100);
    font.addRegion(0, 100, 0);
    font.setDelta(0, 0, -1, -300, 0);
    font.kern(0, 0, -1000);
    font.type(0);
    Check.same("one glyph has no kerning", font.width(), 192);
    font.type(0);
    Check.same("two", font.width(), 384 - 1600);
    font.setAxis(0, 100);
    // 100 - 300 units are -320: on the grid it is itself.
    Check.same("advances below 0", font.width(), -640 - 1600);
    Check.same("their mean", font.meanAdvance(), -320.0);
    font.setAxis(0, 50);
    // 100 - 150 units are -80, on the grid -64.
    Check.same("rounded each", font.width(), -128 - 1600);
    font.kern(0, 0, -7);
    // -11.2 64ths are -11.
    Check.same("kernings are scaled", font.width(), -128 - 11);
  }

  private static void classesOfAPair() {
    HintForge font = Fonts.atSize25();
    font.addGlyph(40);
    font.addGlyph(40);
    for (int right = 0; right < 5; right++) {
      for (int left = 0; left < 5; left++) {
        font.kern(right, left, 5 * (right * 5 + left) + 5);
      }
    }
    font.type(0);
    font.type(1);
    for (int right = 0; right < 5; right++) {
      for (int left = 0; left < 5; left++) {
        font.setClass(0, 4 - left, right);
        font.setClass(1, left, 4 - right);
        Check.same("pair " + right + " " + left, font.width(), 128 + 8 * (right * 5 + left) + 8);
      }
    }
  }

  private static void shares() {
    HintForge font = Fonts.atSize25();
    Fonts.box(font, 0, 0, 40, 40);
    Fonts.box(font, -2000, -2000, 2000, 2000);
    Fonts.box(font, -2000, -2000, 2000, 1560);
    Check.same("one of 2304", font.inkShare(0), 1f / 2304f);
    Check.same("all of them", font.inkShare(1), 1f);
    Check.same("all but a row", font.inkShare(2), 2256f / 2304f);
    Check.same("pixels of all but a row", font.pixels(2), 2256);
    Check.same("the row that is not", font.rowOf(2, 47), 0);
    Check.same("the row below it", font.rowOf(2, 46), 4800);
  }
}
