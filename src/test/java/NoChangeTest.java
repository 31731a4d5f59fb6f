import java.util.function.Consumer;

/**
 * "A method that throws an exception changes nothing.": of two fonts that are made alike, one gets
 * a call that throws; then both are asked for all that can be asked, the cache and its counts first.
 */
public final class NoChangeTest {
  private NoChangeTest() {
  }

  public static void main(String[] args) {
    building();
    variations();
    programs();
    looks();
    metrics();
    layers();
    fullFonts();
    Check.end("NoChangeTest");
  }

  /**
   * Six glyphs: a box with an open contour, its composite, an empty one, one with a program, one of
   * 82 points, and one with layers. Four of them are in the cache, the glyph 0 as the oldest.
   */
  private static HintForge made() {
    HintForge font = Fonts.atSize25();
    Fonts.box(font, 0, 0, 120, 80);
    font.addPoint(0, 200, 0, true);
    Fonts.glyph(font, 300);
    font.addPart(1, 0, 40, 0, 32);
    font.addGlyph(0);
    Fonts.box(font, 0, 0, 55, 200);
    font.addNumber(50);
    Fonts.function(font, "p2 p0 i");
    Fonts.program(font, 3, "C0 p0 I");
    font.addRegion(3, 100, 0);
    font.setDelta(3, 0, 2, 40, 10);
    font.setDelta(3, 0, -1, 30, 0);
    font.setAxis(0, 50);
    Fonts.glyph(font, 200);
    for (int i = 0; i < 40; i++) {
      font.addPoint(2, 3 * i, 5 * (i % 7), i % 4 != 0);
    }
    font.addPart(4, 2, 0, 0, 64);
    font.addPart(4, 2, 100, 0, 64);
    font.addGlyph(500);
    font.addColour(5, 0, 1);
    font.addColour(5, 4, 2);
    font.addColour(5, 3, 3);
    font.keep(1, true);
    font.setClass(0, 1, 2);
    font.kern(2, 1, -30);
    font.type(0);
    font.type(3);
    font.setRule(1);
    for (int i = 0; i < 4; i++) {
      font.pixels(i);
    }
    font.pixels(3);
    return font;
  }

  /** As made, and full: parts, regions, instructions, functions, numbers, layers and text. */
  private static HintForge full() {
    HintForge font = made();
    for (int i = 6; i < 12; i++) {
      font.addGlyph(10 * i);
    }
    font.addPart(1, 2, 0, 0, 20);
    font.addPart(1, 6, 0, 0, 20);
    font.addRegion(3, 10, 10);
    font.addRegion(3, -10, 10);
    for (int i = 3; i < 60; i++) {
      font.addInstruction(3, 'R', i % 6);
    }
    for (int i = 3; i < 30; i++) {
      font.extendFunction(0, 'R', i % 6);
    }
    for (int i = 1; i < 4; i++) {
      font.addFunction();
    }
    for (int i = 1; i < 16; i++) {
      font.addNumber(i);
    }
    font.addColour(5, 2, 4);
    for (int i = 2; i < 20; i++) {
      font.type(i % 4);
    }
    for (int i = 0; i < 4; i++) {
      font.pixels(i);
    }
    return font;
  }

  /** All that a font answers; the cache's order is told by what goes when a fifth glyph comes. */
  private static String seen(HintForge font) {
    StringBuilder all = new StringBuilder();
    all.append(font.hits()).append(' ').append(font.drawings());
    all.append(' ').append(answer(() -> font.addGlyph(0)));
    for (int glyph : new int[] {5, 1, 2, 3, 0, 5, 1}) {
      all.append(' ').append(font.pixels(glyph)).append(' ').append(font.drawings());
    }
    all.append('\n').append(font.subset()).append(' ').append(font.written());
    all.append(' ').append(font.width()).append(' ').append(font.meanAdvance());
    for (int glyph = 0; glyph < 6; glyph++) {
      all.append('\n').append(glyphSeen(font, glyph));
    }
    all.append('\n');
    all.append(' ').append(font.kern(2, 1, 0)).append(' ').append(font.kern(0, 0, 0));
    all.append(' ').append(font.clearText()).append(' ').append(font.setSize(4));
    all.append(' ').append(font.setAxis(0, 0)).append(' ').append(font.setAxis(1, 0));
    all.append(' ').append(font.setRule(0)).append(' ').append(font.setHinting(true));
    all.append(' ').append(answer(() -> font.addGlyph(0)));
    all.append(' ').append(answer(() -> font.addFunction()));
    all.append(' ').append(answer(() -> font.extendFunction(0, 'H', 0)));
    all.append(' ').append(answer(() -> font.addNumber(0)));
    return all.toString();
  }

  private static Object answer(Check.Call call) {
    return Check.answerOf(call);
  }

  private static String glyphSeen(HintForge font, int glyph) {
    StringBuilder all = new StringBuilder();
    all.append(font.points(glyph));
    for (int point = 0; point < 6; point++) {
      int at = point;
      all.append(' ').append(answer(() -> font.pointX(glyph, at, true)));
      all.append(' ').append(answer(() -> font.pointY(glyph, at, false)));
    }
    all.append(' ').append(answer(() -> font.fault(glyph)));
    all.append(' ').append(answer(() -> font.steps(glyph)));
    all.append(' ').append(answer(() -> font.advance(glyph, false)));
    all.append(' ').append(answer(() -> font.numberOf(glyph)));
    all.append(' ').append(answer(() -> font.colourAt(glyph, 9, 9)));
    all.append(' ').append(answer(() -> font.setClass(glyph, 1, 2)));
    all.append(' ').append(answer(() -> font.keep(glyph, false)));
    all.append(' ').append(answer(() -> font.setDelta(glyph, 0, 0, 0, 0)));
    all.append(' ').append(answer(() -> font.addRegion(glyph, 1, 1)));
    all.append(' ').append(answer(() -> font.endContour(glyph)));
    all.append(' ').append(answer(() -> font.addPoint(glyph, 0, 0, true)));
    all.append(' ').append(answer(() -> font.clearProgram(glyph)));
    all.append(' ').append(answer(() -> font.addColour(glyph, 0, 1)));
    all.append(' ').append(answer(() -> font.addPart(glyph, 2, 0, 0, 64)));
    return all.toString();
  }

  private static String shortName(String due) {
    return "throws." + due;
  }

  private static void unchanged(String what, String due, HintForge font, String plain, Consumer<HintForge> call) {
    Object thrown = answer(() -> {
      call.accept(font);
      return "nothing";
    });
    Check.same(what, thrown, shortName(due));
    Check.same(what + " changes nothing", seen(font), plain);
  }

  private static void nothing(String what, String due, Consumer<HintForge> call) {
    unchanged(what, due, made(), seen(made()), call);
  }

  private static void nothingInFull(String what, String due, Consumer<HintForge> call) {
    unchanged(what + ", full", due, full(), seen(full()), call);
  }

  private static void building() {
    nothing("addGlyph", Check.ARGUMENT, f -> f.addGlyph(2001));
    nothing("addPoint of no glyph", Check.INDEX, f -> f.addPoint(6, 0, 0, true));
    nothing("addPoint, x", Check.ARGUMENT, f -> f.addPoint(0, 2001, 0, true));
    nothing("addPoint, y", Check.ARGUMENT, f -> f.addPoint(0, 0, 2001, true));
    nothing("addPoint, 40 points", Check.STATE, f -> f.addPoint(2, 0, 0, true));
    nothing("endContour of no glyph", Check.INDEX, f -> f.endContour(6));
    nothing("endContour of none", Check.STATE, f -> f.endContour(1));
    nothing("endContour of an ended one", Check.STATE, f -> f.endContour(3));
    nothing("movePoint of no glyph", Check.INDEX, f -> f.movePoint(6, 0, 1, 1));
    nothing("movePoint of no point", Check.INDEX, f -> f.movePoint(0, 5, 1, 1));
    nothing("movePoint, x", Check.ARGUMENT, f -> f.movePoint(0, 0, 2001, 7));
    nothing("movePoint, y", Check.ARGUMENT, f -> f.movePoint(0, 0, 7, 2001));
    nothing("addPart to no glyph", Check.INDEX, f -> f.addPart(6, 0, 0, 0, 64));
    nothing("addPart of no glyph", Check.INDEX, f -> f.addPart(0, 6, 0, 0, 64));
    nothing("addPart, dx", Check.ARGUMENT, f -> f.addPart(0, 3, 2001, 0, 64));
    nothing("addPart, dy", Check.ARGUMENT, f -> f.addPart(0, 3, 0, 2001, 64));
    nothing("addPart, scale", Check.ARGUMENT, f -> f.addPart(0, 3, 0, 0, 0));
    nothing("addPart of itself", Check.UNSUPPORTED, f -> f.addPart(0, 0, 0, 0, 64));
    nothing("addPart in a circle", Check.UNSUPPORTED, f -> f.addPart(0, 1, 0, 0, 64));
    nothing("points", Check.INDEX, f -> f.points(6));
  }

  private static void variations() {
    nothing("setAxis of no axis", Check.INDEX, f -> f.setAxis(2, 9));
    nothing("setAxis, value", Check.ARGUMENT, f -> f.setAxis(0, 101));
    nothing("setAxis, value of the other", Check.ARGUMENT, f -> f.setAxis(1, -101));
    nothing("addRegion of no glyph", Check.INDEX, f -> f.addRegion(6, 1, 1));
    nothing("addRegion, a peak", Check.ARGUMENT, f -> f.addRegion(0, 101, 1));
    nothing("addRegion, both 0", Check.ARGUMENT, f -> f.addRegion(0, 0, 0));
    nothing("setDelta of no glyph", Check.INDEX, f -> f.setDelta(6, 0, 0, 1, 1));
    nothing("setDelta of no region", Check.INDEX, f -> f.setDelta(3, 1, 0, 1, 1));
    nothing("setDelta of no point", Check.INDEX, f -> f.setDelta(3, 0, 4, 1, 1));
    nothing("setDelta, dx", Check.ARGUMENT, f -> f.setDelta(3, 0, 2, 1001, 1));
    nothing("setDelta, dy", Check.ARGUMENT, f -> f.setDelta(3, 0, 2, 1, 1001));
    nothing("setDelta of a new one, dy", Check.ARGUMENT, f -> f.setDelta(3, 0, 1, 1, -1001));
    nothing("setDelta, advance", Check.ARGUMENT, f -> f.setDelta(3, 0, -1, -1001, 0));
    nothing("setSize below", Check.ARGUMENT, f -> f.setSize(3));
    nothing("setSize above", Check.ARGUMENT, f -> f.setSize(33));
    nothing("setRule", Check.ARGUMENT, f -> f.setRule(3));
    nothing("setRule below", Check.ARGUMENT, f -> f.setRule(-1));
  }

  private static void programs() {
    nothing("addInstruction of no glyph", Check.INDEX, f -> f.addInstruction(6, 'H', 0));
    nothing("addInstruction of no kind", Check.ARGUMENT, f -> f.addInstruction(3, 'h', 0));
    nothing("addInstruction, n", Check.ARGUMENT, f -> f.addInstruction(3, 'C', 4));
    nothing("clearProgram", Check.INDEX, f -> f.clearProgram(-1));
    nothing("extendFunction of none", Check.INDEX, f -> f.extendFunction(1, 'H', 0));
    nothing("extendFunction of no kind", Check.ARGUMENT, f -> f.extendFunction(0, 'h', 0));
    nothing("extendFunction, n", Check.ARGUMENT, f -> f.extendFunction(0, 'S', 3));
    nothing("addNumber", Check.ARGUMENT, f -> f.addNumber(2001));
  }

  private static void looks() {
    nothing("pointX of no glyph", Check.INDEX, f -> f.pointX(6, 0, true));
    nothing("pointX of no point", Check.INDEX, f -> f.pointX(0, 7, true));
    nothing("pointX of 82", Check.UNSUPPORTED, f -> f.pointX(4, 0, true));
    nothing("pointY of no glyph", Check.INDEX, f -> f.pointY(-1, 0, true));
    nothing("pointY of no point", Check.INDEX, f -> f.pointY(3, -1, true));
    nothing("pointY of 82", Check.UNSUPPORTED, f -> f.pointY(4, 0, true));
    nothing("fault of no glyph", Check.INDEX, f -> f.fault(6));
    nothing("fault of 82", Check.UNSUPPORTED, f -> f.fault(4));
    nothing("isExact of no glyph", Check.INDEX, f -> f.isExact(6));
    nothing("isExact of 82", Check.UNSUPPORTED, f -> f.isExact(4));
    nothing("steps of no glyph", Check.INDEX, f -> f.steps(6));
    nothing("steps of 82", Check.UNSUPPORTED, f -> f.steps(4));
    nothing("pixel of no glyph", Check.INDEX, f -> f.pixel(6, 0, 0));
    nothing("pixel of no column, of the oldest one", Check.INDEX, f -> f.pixel(0, 48, 0));
    nothing("pixel of no row, of the oldest one", Check.INDEX, f -> f.pixel(0, 0, -1));
    nothing("pixel of no row, of one to draw", Check.INDEX, f -> f.pixel(5, 0, 48));
    nothing("pixel of 82", Check.UNSUPPORTED, f -> f.pixel(4, 0, 0));
    nothing("pixels of no glyph", Check.INDEX, f -> f.pixels(6));
    nothing("pixels of 82", Check.UNSUPPORTED, f -> f.pixels(4));
    nothing("rowOf of no glyph", Check.INDEX, f -> f.rowOf(6, 0));
    nothing("rowOf of no row, of the oldest one", Check.INDEX, f -> f.rowOf(0, 48));
    nothing("rowOf of no row, of one to draw", Check.INDEX, f -> f.rowOf(5, -1));
    nothing("rowOf of 82", Check.UNSUPPORTED, f -> f.rowOf(4, 0));
    nothing("isWound of no glyph", Check.INDEX, f -> f.isWound(6));
    nothing("isWound of 82", Check.UNSUPPORTED, f -> f.isWound(4));
    nothing("inkShare of no glyph", Check.INDEX, f -> f.inkShare(6));
    nothing("inkShare of 82", Check.UNSUPPORTED, f -> f.inkShare(4));
  }

  private static void metrics() {
    nothing("advance of no glyph", Check.INDEX, f -> f.advance(6, true));
    nothing("advance of 82", Check.UNSUPPORTED, f -> f.advance(4, true));
    nothing("scaled advance of 82", Check.UNSUPPORTED, f -> f.advance(4, false));
    nothing("setClass of no glyph", Check.INDEX, f -> f.setClass(6, 3, 3));
    nothing("setClass, left", Check.ARGUMENT, f -> f.setClass(0, 5, 3));
    nothing("setClass, right", Check.ARGUMENT, f -> f.setClass(0, 3, -1));
    nothing("kern, right", Check.ARGUMENT, f -> f.kern(5, 1, 9));
    nothing("kern, left", Check.ARGUMENT, f -> f.kern(2, 5, 9));
    nothing("kern, units", Check.ARGUMENT, f -> f.kern(2, 1, 1001));
    nothing("type of no glyph", Check.INDEX, f -> f.type(6));
    nothing("keep of no glyph", Check.INDEX, f -> f.keep(6, true));
    nothing("numberOf no glyph", Check.INDEX, f -> f.numberOf(6));
    nothing("numberOf one that is not in it", Check.ELEMENT, f -> f.numberOf(3));
    nothing("isSame of no glyph", Check.INDEX, f -> f.isSame(6));
    nothing("isSame of one that is not in it", Check.ELEMENT, f -> f.isSame(3));
    nothing("width of 82", Check.UNSUPPORTED, withLongText(f -> f.width()));
    nothing("meanAdvance of 82", Check.UNSUPPORTED, withLongText(f -> f.meanAdvance()));
    nothing("meanAdvance of none", Check.ARITHMETIC, f -> {
      f.clearText();
      Object thrown = answer(() -> f.meanAdvance());
      f.type(0);
      f.type(3);
      Check.same("the text is empty", thrown, shortName(Check.ARITHMETIC));
      throw new ArithmeticException();
    });
  }

  /** Types a glyph of 82 points, makes the call, and types the text as it was. */
  private static Consumer<HintForge> withLongText(Consumer<HintForge> call) {
    return font -> {
      font.type(4);
      Object thrown = answer(() -> {
        call.accept(font);
        return "nothing";
      });
      Check.same("the text stays", font.clearText(), 3);
      font.type(0);
      font.type(3);
      Check.same("82 points in the text", thrown, shortName(Check.UNSUPPORTED));
      throw new UnsupportedOperationException();
    };
  }

  private static void layers() {
    nothing("addColour to no glyph", Check.INDEX, f -> f.addColour(6, 0, 1));
    nothing("addColour of no glyph", Check.INDEX, f -> f.addColour(0, 6, 1));
    nothing("addColour, colour", Check.ARGUMENT, f -> f.addColour(0, 0, 10));
    nothing("colourAt of no glyph", Check.INDEX, f -> f.colourAt(6, 0, 0));
    nothing("colourAt of no column", Check.INDEX, f -> f.colourAt(5, 48, 0));
    nothing("colourAt of no row", Check.INDEX, f -> f.colourAt(5, 0, -1));
    // The last layer, the glyph 3, is in the cache; it does not have the pixel, the next one throws.
    nothing("colourAt of 82, behind a hit", Check.UNSUPPORTED, f -> f.colourAt(5, 47, 47));
    nothing("colourAt of 82, behind a hit of the oldest one", Check.UNSUPPORTED, f -> {
      f.addColour(1, 4, 1);
      f.addColour(1, 0, 1);
      f.addColour(5, 4, 1);
      f.colourAt(1, 47, 47);
    }, "addColour of a plain one", f -> {
      f.addColour(1, 4, 1);
      f.addColour(1, 0, 1);
      f.addColour(5, 4, 1);
    });
    nothing("colourAt of 82, behind one to draw", Check.UNSUPPORTED, f -> {
      f.addColour(0, 4, 1);
      f.addColour(0, 5, 1);
      f.colourAt(0, 47, 47);
    }, "addColour of one to draw", f -> {
      f.addColour(0, 4, 1);
      f.addColour(0, 5, 1);
    });
    nothing("colourAt of 82 alone", Check.UNSUPPORTED, f -> {
      f.addColour(0, 4, 1);
      f.colourAt(0, 0, 0);
    }, "addColour of 82 alone", f -> f.addColour(0, 4, 1));
  }

  private static void nothing(
      String what, String due, Consumer<HintForge> call, String twin, Consumer<HintForge> ahead) {
    HintForge plain = made();
    ahead.accept(plain);
    unchanged(what + " after " + twin, due, made(), seen(plain), call);
  }

  private static void fullFonts() {
    nothingInFull("addGlyph", Check.STATE, f -> f.addGlyph(10));
    nothingInFull("addPart", Check.STATE, f -> f.addPart(1, 3, 0, 0, 64));
    nothingInFull("addRegion", Check.STATE, f -> f.addRegion(3, 1, 1));
    nothingInFull("addInstruction", Check.STATE, f -> f.addInstruction(3, 'H', 0));
    nothingInFull("extendFunction", Check.STATE, f -> f.extendFunction(0, 'H', 0));
    nothingInFull("addFunction", Check.STATE, f -> f.addFunction());
    nothingInFull("addNumber", Check.STATE, f -> f.addNumber(9));
    nothingInFull("addColour", Check.STATE, f -> f.addColour(5, 0, 9));
    nothingInFull("type", Check.STATE, f -> f.type(0));
    nothingInFull("isSame of no glyph", Check.INDEX, f -> f.isSame(12));
    nothingInFull("isSame of 82", Check.UNSUPPORTED, f -> {
      f.keep(4, true);
      Object thrown = answer(() -> f.isSame(4));
      f.keep(4, false);
      Check.same("in the subset", thrown, shortName(Check.UNSUPPORTED));
      throw new UnsupportedOperationException();
    });
  }
}
