/**
 * Every pair of exceptions of a method that can apply at once: the one documented first is thrown.
 * Every row that tells of something full is tried there, too, with all else in range.
 */
public final class ThrowOrderTest {
  private ThrowOrderTest() {
  }

  public static void main(String[] args) {
    addGlyph();
    addPoint();
    endContour();
    movePoint();
    addPart();
    setAxis();
    addRegion();
    setDelta();
    addInstruction();
    extendFunction();
    addNumber();
    pointsOfTooMany();
    pixelsOfTooMany();
    setClass();
    type();
    addColour();
    colourAt();
    subsets();
    meanAdvance();
    Check.end("ThrowOrderTest");
  }

  private static HintForge fontOf(int glyphs) {
    HintForge font = new HintForge();
    for (int i = 0; i < glyphs; i++) {
      font.addGlyph(100);
    }
    return font;
  }

  /** The glyph 0 has 81 points with its begin and its end, the glyph 1 has 42. */
  private static HintForge fontWithTooMany() {
    HintForge font = fontOf(2);
    for (int i = 0; i < 40; i++) {
      font.addPoint(1, i, i, true);
    }
    for (int i = 0; i < 39; i++) {
      font.addPoint(0, i, i, true);
    }
    font.addPart(0, 1, 0, 0, 64);
    return font;
  }

  private static void addGlyph() {
    HintForge font = fontOf(11);
    Check.raises("11 glyphs, out of range", Check.ARGUMENT, () -> font.addGlyph(2001));
    Check.same("the 12th glyph", font.addGlyph(2000), 11);
    Check.raises("12 glyphs", Check.STATE, () -> font.addGlyph(0));
    Check.raises("12 glyphs, below the range", Check.ARGUMENT, () -> font.addGlyph(-1));
    Check.raises("12 glyphs, above the range", Check.ARGUMENT, () -> font.addGlyph(2001));
  }

  private static void addPoint() {
    HintForge font = fontOf(1);
    for (int i = 0; i < 39; i++) {
      font.addPoint(0, 0, 0, true);
    }
    Check.same("the 40th point", font.addPoint(0, 0, 0, false), 39);
    Check.raises("40 points", Check.STATE, () -> font.addPoint(0, 0, 0, true));
    Check.raises("40 points, x", Check.ARGUMENT, () -> font.addPoint(0, 2001, 0, true));
    Check.raises("40 points, y", Check.ARGUMENT, () -> font.addPoint(0, 0, -2001, true));
    Check.raises("no glyph, x", Check.INDEX, () -> font.addPoint(1, 2001, 0, true));
    Check.raises("no glyph, y", Check.INDEX, () -> font.addPoint(1, 0, -2001, true));
    Check.raises("no glyph behind the full one", Check.INDEX, () -> font.addPoint(1, 0, 0, true));
    font.endContour(0);
    Check.raises("40 points, ended", Check.STATE, () -> font.addPoint(0, 0, 0, true));
    Check.raises("nor did a contour begin", Check.STATE, () -> font.endContour(0));
  }

  private static void endContour() {
    HintForge font = fontOf(1);
    Check.raises("no glyph, no contour", Check.INDEX, () -> font.endContour(1));
    Check.raises("no contour", Check.STATE, () -> font.endContour(0));
    font.addPoint(0, 1, 1, true);
    Check.raises("no glyph", Check.INDEX, () -> font.endContour(1));
    Check.same("the first one", font.endContour(0), 1);
    Check.raises("the first one is ended", Check.STATE, () -> font.endContour(0));
  }

  private static void movePoint() {
    HintForge font = fontOf(1);
    Check.raises("no point at all", Check.INDEX, () -> font.movePoint(0, 0, 0, 0));
    Check.raises("the begin is no own point", Check.INDEX, () -> font.movePoint(0, 0, 2001, 0));
    font.addPoint(0, 1, 1, true);
    Check.raises("no glyph, x", Check.INDEX, () -> font.movePoint(1, 0, 2001, 0));
    Check.raises("no glyph, y", Check.INDEX, () -> font.movePoint(1, 0, 0, 2001));
    Check.raises("no point, x", Check.INDEX, () -> font.movePoint(0, 1, -2001, 0));
    Check.raises("no point, y", Check.INDEX, () -> font.movePoint(0, -1, 0, -2001));
    Check.raises("x and y", Check.ARGUMENT, () -> font.movePoint(0, 0, 2001, 2001));
  }

  private static void addPart() {
    HintForge font = fontOf(3);
    font.addPart(1, 0, 0, 0, 64);
    Check.raises("no glyph, dx", Check.INDEX, () -> font.addPart(3, 0, 2001, 0, 64));
    Check.raises("no other, dy", Check.INDEX, () -> font.addPart(0, 3, 0, 2001, 64));
    Check.raises("no other, scale", Check.INDEX, () -> font.addPart(0, -1, 0, 0, 0));
    Check.raises("itself, not there", Check.INDEX, () -> font.addPart(3, 3, 0, 0, 64));
    Check.raises("itself, dx", Check.ARGUMENT, () -> font.addPart(0, 0, -2001, 0, 64));
    Check.raises("itself, dy", Check.ARGUMENT, () -> font.addPart(0, 0, 0, -2001, 64));
    Check.raises("itself, scale", Check.ARGUMENT, () -> font.addPart(0, 0, 0, 0, 129));
    Check.raises("a circle, scale", Check.ARGUMENT, () -> font.addPart(0, 1, 0, 0, 0));
    Check.raises("itself", Check.UNSUPPORTED, () -> font.addPart(2, 2, 0, 0, 64));
    Check.raises("a circle", Check.UNSUPPORTED, () -> font.addPart(0, 1, 0, 0, 64));
    font.addPart(1, 2, 0, 0, 64);
    Check.same("the third part", font.addPart(1, 0, 0, 0, 64), 3);
    Check.raises("3 parts", Check.STATE, () -> font.addPart(1, 2, 0, 0, 64));
    Check.raises("3 parts, itself", Check.UNSUPPORTED, () -> font.addPart(1, 1, 0, 0, 64));
    Check.raises("3 parts, itself, scale", Check.ARGUMENT, () -> font.addPart(1, 1, 0, 0, 0));
    Check.raises("3 parts, dx", Check.ARGUMENT, () -> font.addPart(1, 2, 2001, 0, 64));
    Check.raises("3 parts, no other", Check.INDEX, () -> font.addPart(1, 3, 0, 0, 64));
    for (int i = 0; i < 3; i++) {
      font.addPart(0, 2, 0, 0, 64);
    }
    Check.raises("3 parts, a circle", Check.UNSUPPORTED, () -> font.addPart(0, 1, 0, 0, 64));
  }

  private static void setAxis() {
    HintForge font = fontOf(0);
    Check.raises("no axis, value", Check.INDEX, () -> font.setAxis(2, 101));
    Check.raises("no axis, value below", Check.INDEX, () -> font.setAxis(-1, -101));
  }

  private static void addRegion() {
    HintForge font = fontOf(1);
    Check.raises("no glyph, both 0", Check.INDEX, () -> font.addRegion(1, 0, 0));
    Check.raises("no glyph, a peak", Check.INDEX, () -> font.addRegion(1, 101, 0));
    for (int i = 0; i < 2; i++) {
      font.addRegion(0, 1, 1);
    }
    Check.same("the third region", font.addRegion(0, 1, 1), 2);
    Check.raises("3 regions", Check.STATE, () -> font.addRegion(0, 1, 1));
    Check.raises("3 regions, both 0", Check.ARGUMENT, () -> font.addRegion(0, 0, 0));
    Check.raises("3 regions, the first peak", Check.ARGUMENT, () -> font.addRegion(0, 101, 1));
    Check.raises("3 regions, the second peak", Check.ARGUMENT, () -> font.addRegion(0, 1, -101));
    Check.raises("no glyph behind the full one", Check.INDEX, () -> font.addRegion(1, 1, 1));
  }

  private static void setDelta() {
    HintForge font = fontOf(1);
    font.addPoint(0, 1, 1, true);
    Check.raises("no region, dx", Check.INDEX, () -> font.setDelta(0, 0, 0, 1001, 0));
    Check.raises("no region for the advance", Check.INDEX, () -> font.setDelta(0, 0, -1, 0, 0));
    font.addRegion(0, 1, 1);
    Check.raises("no glyph, dx", Check.INDEX, () -> font.setDelta(1, 0, 0, 1001, 0));
    Check.raises("no region 1, dy", Check.INDEX, () -> font.setDelta(0, 1, 0, 0, 1001));
    Check.raises("no region 1, advance, dx", Check.INDEX, () -> font.setDelta(0, 1, -1, 1001, 0));
    Check.raises("no point 1, dx", Check.INDEX, () -> font.setDelta(0, 0, 1, -1001, 0));
    Check.raises("no point -2, dy", Check.INDEX, () -> font.setDelta(0, 0, -2, 0, -1001));
  }

  private static void addInstruction() {
    HintForge font = fontOf(1);
    Check.raises("no glyph, no kind", Check.INDEX, () -> font.addInstruction(1, 'h', 0));
    Check.raises("no glyph, n", Check.INDEX, () -> font.addInstruction(1, 'R', 6));
    for (int i = 0; i < 59; i++) {
      font.addInstruction(0, 'H', 0);
    }
    Check.same("the 60th", font.addInstruction(0, 'p', 99999), 60);
    Check.raises("60 of them", Check.STATE, () -> font.addInstruction(0, 'H', 0));
    Check.raises("60 of them, no kind", Check.ARGUMENT, () -> font.addInstruction(0, 'h', 0));
    Check.raises("60 of them, n", Check.ARGUMENT, () -> font.addInstruction(0, 'p', 100000));
    Check.raises("no glyph behind the full one", Check.INDEX, () -> font.addInstruction(1, 'H', 0));
    Check.same("taken away", font.clearProgram(0), 60);
    Check.same("and told anew", font.addInstruction(0, 'H', 0), 1);
  }

  private static void extendFunction() {
    HintForge font = fontOf(0);
    Check.raises("no function, no kind", Check.INDEX, () -> font.extendFunction(0, 'h', 0));
    font.addFunction();
    Check.raises("no function 1, n", Check.INDEX, () -> font.extendFunction(1, 'S', 3));
    for (int i = 0; i < 29; i++) {
      font.extendFunction(0, 'H', 0);
    }
    Check.same("the 30th", font.extendFunction(0, 'C', 3), 30);
    Check.raises("30 of them", Check.STATE, () -> font.extendFunction(0, 'H', 0));
    Check.raises("30 of them, no kind", Check.ARGUMENT, () -> font.extendFunction(0, 'h', 0));
    Check.raises("30 of them, n", Check.ARGUMENT, () -> font.extendFunction(0, 'C', 4));
    Check.raises("no function 1 still", Check.INDEX, () -> font.extendFunction(1, 'H', 0));
    for (int i = 1; i < 4; i++) {
      Check.same("function", font.addFunction(), i);
    }
    Check.raises("4 functions", Check.STATE, () -> font.addFunction());
    Check.same("the last one", font.extendFunction(3, 'H', 0), 1);
  }

  private static void addNumber() {
    HintForge font = fontOf(0);
    for (int i = 0; i < 15; i++) {
      font.addNumber(0);
    }
    Check.same("the 16th", font.addNumber(2000), 15);
    Check.raises("16 of them", Check.STATE, () -> font.addNumber(0));
    Check.raises("16 of them, above", Check.ARGUMENT, () -> font.addNumber(2001));
    Check.raises("16 of them, below", Check.ARGUMENT, () -> font.addNumber(-2001));
  }

  private static void pointsOfTooMany() {
    HintForge font = fontWithTooMany();
    Check.same("81 points", font.points(0), 81);
    for (int point : new int[] {-1, 81, Integer.MIN_VALUE, Integer.MAX_VALUE}) {
      Check.raises("x of no point " + point, Check.INDEX, () -> font.pointX(0, point, true));
      Check.raises("scaled x of no point " + point, Check.INDEX, () -> font.pointX(0, point, false));
      Check.raises("y of no point " + point, Check.INDEX, () -> font.pointY(0, point, true));
      Check.raises("scaled y of no point " + point, Check.INDEX, () -> font.pointY(0, point, false));
    }
    for (int point : new int[] {0, 40, 80}) {
      Check.raises("x of point " + point, Check.UNSUPPORTED, () -> font.pointX(0, point, true));
      Check.raises("scaled x of point " + point, Check.UNSUPPORTED, () -> font.pointX(0, point, false));
      Check.raises("y of point " + point, Check.UNSUPPORTED, () -> font.pointY(0, point, true));
      Check.raises("scaled y of point " + point, Check.UNSUPPORTED, () -> font.pointY(0, point, false));
    }
  }

  private static void pixelsOfTooMany() {
    HintForge font = fontWithTooMany();
    Check.raises("no column", Check.INDEX, () -> font.pixel(0, 48, 0));
    Check.raises("no column -1", Check.INDEX, () -> font.pixel(0, -1, 0));
    Check.raises("no row", Check.INDEX, () -> font.pixel(0, 0, 48));
    Check.raises("no row -1", Check.INDEX, () -> font.pixel(0, 0, -1));
    Check.raises("no row of rowOf", Check.INDEX, () -> font.rowOf(0, 48));
    Check.raises("no row -1 of rowOf", Check.INDEX, () -> font.rowOf(0, -1));
    Check.raises("pixel", Check.UNSUPPORTED, () -> font.pixel(0, 47, 47));
    Check.raises("rowOf", Check.UNSUPPORTED, () -> font.rowOf(0, 47));
    Check.same("42 points", font.rowOf(1, 47), 0);
  }

  private static void setClass() {
    HintForge font = fontOf(1);
    Check.raises("no glyph, left", Check.INDEX, () -> font.setClass(1, 5, 0));
    Check.raises("no glyph, right", Check.INDEX, () -> font.setClass(-1, 0, -1));
  }

  private static void type() {
    HintForge font = fontOf(1);
    for (int i = 0; i < 19; i++) {
      font.type(0);
    }
    Check.same("the 20th", font.type(0), 20);
    Check.raises("20 of them", Check.STATE, () -> font.type(0));
    Check.raises("20 of them, no glyph", Check.INDEX, () -> font.type(1));
    Check.raises("20 of them, no glyph -1", Check.INDEX, () -> font.type(-1));
  }

  private static void addColour() {
    HintForge font = fontOf(1);
    Check.raises("no glyph, colour", Check.INDEX, () -> font.addColour(1, 0, 0));
    Check.raises("no other, colour", Check.INDEX, () -> font.addColour(0, 1, 10));
    Check.same("itself", font.addColour(0, 0, 1), 1);
    font.addColour(0, 0, 1);
    font.addColour(0, 0, 1);
    Check.same("the 4th", font.addColour(0, 0, 1), 4);
    Check.raises("4 of them", Check.STATE, () -> font.addColour(0, 0, 1));
    Check.raises("4 of them, colour 0", Check.ARGUMENT, () -> font.addColour(0, 0, 0));
    Check.raises("4 of them, colour 10", Check.ARGUMENT, () -> font.addColour(0, 0, 10));
    Check.raises("4 of them, no other", Check.INDEX, () -> font.addColour(0, 1, 1));
  }

  private static void colourAt() {
    HintForge font = fontWithTooMany();
    Check.same("its own points are not looked at", font.colourAt(0, 0, 0), 0);
    font.addColour(1, 0, 1);
    Check.raises("no column", Check.INDEX, () -> font.colourAt(1, 48, 0));
    Check.raises("no column -1", Check.INDEX, () -> font.colourAt(1, -1, 0));
    Check.raises("no row", Check.INDEX, () -> font.colourAt(1, 0, 48));
    Check.raises("no row -1", Check.INDEX, () -> font.colourAt(1, 0, -1));
    Check.raises("a layer of 81 points", Check.UNSUPPORTED, () -> font.colourAt(1, 47, 47));
  }

  private static void subsets() {
    HintForge font = fontWithTooMany();
    Check.raises("no glyph", Check.INDEX, () -> font.isSame(2));
    Check.raises("no glyph to number", Check.INDEX, () -> font.numberOf(2));
    Check.raises("not in it, 81 points", Check.ELEMENT, () -> font.isSame(0));
    font.keep(1, true);
    Check.raises("not in it still", Check.ELEMENT, () -> font.isSame(0));
    Check.same("its part is", font.isSame(1), true);
    font.keep(0, true);
    Check.raises("in it, 81 points", Check.UNSUPPORTED, () -> font.isSame(0));
    Check.same("it is numbered", font.numberOf(0), 0);
  }

  private static void meanAdvance() {
    HintForge font = fontWithTooMany();
    Check.raises("empty", Check.ARITHMETIC, () -> font.meanAdvance());
    Check.same("no width", font.width(), 0);
    font.type(1);
    font.type(0);
    font.type(1);
    Check.raises("81 points in the middle", Check.UNSUPPORTED, () -> font.meanAdvance());
    Check.raises("width of 81 points in the middle", Check.UNSUPPORTED, () -> font.width());
    font.clearText();
    font.type(1);
    Check.same("42 points", font.meanAdvance(), 64.0);
    font.type(0);
    Check.raises("81 points at the end", Check.UNSUPPORTED, () -> font.meanAdvance());
    Check.raises("width of 81 points at the end", Check.UNSUPPORTED, () -> font.width());
  }
}
