/**
 * The range of every argument: the least and the greatest that are taken, with what they do, and
 * what is refused beyond them on both sides.
 */
public final class RangesTest {
  private interface Probe {
    Object call(HintForge font, int value);
  }

  private static final int[] FAR = {Integer.MIN_VALUE, Integer.MAX_VALUE};

  private RangesTest() {
  }

  public static void main(String[] args) {
    glyphNumbers();
    otherNumbers();
    advances();
    coordinates();
    parts();
    axesAndPeaks();
    regionsAndDeltas();
    sizesAndRules();
    operands();
    kindsAreNotNear();
    functionsAndNumbers();
    pointsLookedAt();
    pixelsLookedAt();
    classesAndKernings();
    colours();
    Check.end("RangesTest");
  }

  /** Glyphs that each have one point in an open contour, a region, and a kept mark. */
  private static HintForge fontOf(int glyphs) {
    HintForge font = Fonts.atSize25();
    for (int i = 0; i < glyphs; i++) {
      font.addGlyph(100);
      font.addPoint(i, 5, 10, true);
      font.addRegion(i, 100, 0);
      font.keep(i, true);
    }
    return font;
  }

  private static void taken(String what, int value, Object due, Probe probe) {
    HintForge font = fontOf(2);
    Check.same(what + " " + value, Check.answerOf(() -> probe.call(font, value)), due);
  }

  private static void refused(String what, int value, String due, Probe probe) {
    HintForge font = fontOf(2);
    Check.raises(what + " " + value, due, () -> probe.call(font, value));
  }

  private static void range(
      String what, int least, Object atLeast, int greatest, Object atGreatest, String due, Probe probe) {
    taken(what, least, atLeast, probe);
    taken(what, greatest, atGreatest, probe);
    refused(what, least - 1, due, probe);
    refused(what, greatest + 1, due, probe);
    for (int far : FAR) {
      refused(what, far, due, probe);
    }
  }

  private static void glyphs(String what, Probe probe) {
    for (int count : new int[] {0, 1, 2, 12}) {
      for (int glyph = 0; glyph < count; glyph++) {
        HintForge font = fontOf(count);
        int asked = glyph;
        Object answer = Check.answerOf(() -> probe.call(font, asked));
        Check.same(what + " takes " + glyph + " of " + count, answer.toString().startsWith("throws."), false);
      }
      for (int glyph : new int[] {-1, count, Integer.MIN_VALUE, Integer.MAX_VALUE}) {
        HintForge font = fontOf(count);
        Check.raises(what + " " + glyph + " of " + count, Check.INDEX, () -> probe.call(font, glyph));
      }
    }
  }

  private static void glyphNumbers() {
    glyphs("addPoint", (f, g) -> f.addPoint(g, 0, 0, true));
    glyphs("endContour", (f, g) -> f.endContour(g));
    glyphs("movePoint", (f, g) -> f.movePoint(g, 0, 0, 0));
    glyphs("points", (f, g) -> f.points(g));
    glyphs("addRegion", (f, g) -> f.addRegion(g, 1, 1));
    glyphs("setDelta", (f, g) -> f.setDelta(g, 0, 0, 0, 0));
    glyphs("setDelta of the advance", (f, g) -> f.setDelta(g, 0, -1, 0, 0));
    glyphs("addInstruction", (f, g) -> f.addInstruction(g, 'H', 0));
    glyphs("clearProgram", (f, g) -> f.clearProgram(g));
    glyphs("pointX", (f, g) -> f.pointX(g, 0, true));
    glyphs("pointX, scaled", (f, g) -> f.pointX(g, 0, false));
    glyphs("pointY", (f, g) -> f.pointY(g, 0, true));
    glyphs("pointY, scaled", (f, g) -> f.pointY(g, 0, false));
    glyphs("fault", (f, g) -> f.fault(g));
    glyphs("isExact", (f, g) -> f.isExact(g));
    glyphs("steps", (f, g) -> f.steps(g));
    glyphs("pixel", (f, g) -> f.pixel(g, 0, 0));
    glyphs("pixels", (f, g) -> f.pixels(g));
    glyphs("rowOf", (f, g) -> f.rowOf(g, 0));
    glyphs("isWound", (f, g) -> f.isWound(g));
    glyphs("advance", (f, g) -> f.advance(g, true));
    glyphs("advance, scaled", (f, g) -> f.advance(g, false));
    glyphs("setClass", (f, g) -> f.setClass(g, 1, 1));
    glyphs("type", (f, g) -> f.type(g));
    glyphs("addColour", (f, g) -> f.addColour(g, 0, 1));
    glyphs("addColour of another", (f, g) -> f.addColour(0, g, 1));
    glyphs("colourAt", (f, g) -> f.colourAt(g, 0, 0));
    glyphs("keep", (f, g) -> f.keep(g, true));
    glyphs("keep not", (f, g) -> f.keep(g, false));
    glyphs("numberOf", (f, g) -> f.numberOf(g));
    glyphs("isSame", (f, g) -> f.isSame(g));
    glyphs("inkShare", (f, g) -> f.inkShare(g));
  }

  /** Both glyphs of a part: neither is the other one. */
  private static void otherNumbers() {
    for (int count : new int[] {2, 12}) {
      for (int bad : new int[] {-1, count, Integer.MIN_VALUE, Integer.MAX_VALUE}) {
        HintForge font = fontOf(count);
        Check.raises("part of " + bad, Check.INDEX, () -> font.addPart(bad, 0, 0, 0, 64));
        Check.raises("part " + bad, Check.INDEX, () -> font.addPart(0, bad, 0, 0, 64));
        Check.raises("part " + bad + " of it", Check.INDEX, () -> font.addPart(bad, bad, 0, 0, 64));
      }
      HintForge font = fontOf(count);
      Check.same("the last one of the first one", font.addPart(0, count - 1, 0, 0, 64), 1);
      HintForge back = fontOf(count);
      Check.same("the first one of the last one", back.addPart(count - 1, 0, 0, 0, 64), 1);
    }
  }

  private static void advances() {
    range("addGlyph", 0, "2 0", 2000, "2 3200", Check.ARGUMENT,
        (f, v) -> f.addGlyph(v) + " " + f.advance(2, false));
  }

  private static void coordinates() {
    range("x of addPoint", -2000, "1 -3200", 2000, "1 3200", Check.ARGUMENT,
        (f, v) -> f.addPoint(0, v, 0, true) + " " + f.pointX(0, 1, false));
    range("y of addPoint", -2000, "1 -3200", 2000, "1 3200", Check.ARGUMENT,
        (f, v) -> f.addPoint(0, 0, v, true) + " " + f.pointY(0, 1, false));
    range("x off the curve", -2000, 1, 2000, 1, Check.ARGUMENT, (f, v) -> f.addPoint(0, v, 0, false));
    range("y off the curve", -2000, 1, 2000, 1, Check.ARGUMENT, (f, v) -> f.addPoint(0, 0, v, false));
    range("x of movePoint", -2000, "5 -3200", 2000, "5 3200", Check.ARGUMENT,
        (f, v) -> f.movePoint(0, 0, v, 0) + " " + f.pointX(0, 0, false));
    range("y of movePoint", -2000, "5 -3200", 2000, "5 3200", Check.ARGUMENT,
        (f, v) -> f.movePoint(0, 0, 0, v) + " " + f.pointY(0, 0, false));
    range("point of movePoint", 0, 5, 1, 70, Check.INDEX, (f, v) -> {
      f.addPoint(0, 70, 0, true);
      return f.movePoint(0, v, 0, 0);
    });
    range("point of movePoint, of 40", 0, 5, 39, 1, Check.INDEX, (f, v) -> {
      for (int i = 1; i < 40; i++) {
        f.addPoint(0, 1, 0, true);
      }
      return f.movePoint(0, v, 0, 0);
    });
    HintForge font = fontOf(1);
    font.addGlyph(0);
    font.addPart(1, 0, 0, 0, 64);
    Check.raises("a part's point is no own one", Check.INDEX, () -> font.movePoint(1, 0, 0, 0));
    font.addPoint(1, 3, 3, true);
    Check.raises("nor is it behind them", Check.INDEX, () -> font.movePoint(1, 1, 0, 0));
  }

  private static void parts() {
    // A point at 5, 10 in units: 8, 16 in 64ths; its part is the point 1.
    range("dx of addPart", -2000, "1 -3192", 2000, "1 3208", Check.ARGUMENT,
        (f, v) -> f.addPart(0, 1, v, 0, 64) + " " + f.pointX(0, 1, false));
    range("dy of addPart", -2000, "1 -3184", 2000, "1 3216", Check.ARGUMENT,
        (f, v) -> f.addPart(0, 1, 0, v, 64) + " " + f.pointY(0, 1, false));
    range("scale of addPart", 1, "1 0", 128, "1 16", Check.ARGUMENT,
        (f, v) -> f.addPart(0, 1, 0, 0, v) + " " + f.pointX(0, 1, false));
  }

  private static void axesAndPeaks() {
    range("axis", 0, "0 7 0", 1, "0 0 7", Check.INDEX,
        (f, v) -> f.setAxis(v, 7) + " " + f.setAxis(0, 0) + " " + f.setAxis(1, 0));
    for (int axis = 0; axis < 2; axis++) {
      int told = axis;
      range("value of axis " + axis, -100, "0 -100", 100, "0 100", Check.ARGUMENT,
          (f, v) -> f.setAxis(told, v) + " " + f.setAxis(told, 1));
    }
    range("first peak", -100, "1 8", 100, "1 168", Check.ARGUMENT, (f, v) -> grown(f, v, 0));
    range("second peak", -100, "1 8", 100, "1 168", Check.ARGUMENT, (f, v) -> grown(f, 0, v));
    taken("first peak of", 0, "1 168", (f, v) -> grown(f, v, 1));
    taken("second peak of", 0, "1 168", (f, v) -> grown(f, 1, v));
    refused("both peaks", 0, Check.ARGUMENT, (f, v) -> f.addRegion(0, v, v));
  }

  private static String grown(HintForge font, int first, int second) {
    int region = font.addRegion(0, first, second);
    font.setDelta(0, region, 0, 100, 0);
    font.setAxis(0, 100);
    font.setAxis(1, 100);
    return region + " " + font.pointX(0, 0, false);
  }

  private static void regionsAndDeltas() {
    range("region, of 1", 0, 1, 0, 1, Check.INDEX, (f, v) -> f.setDelta(0, v, 0, 0, 0));
    range("region, of 3", 0, 1, 2, 1, Check.INDEX, (f, v) -> {
      f.addRegion(0, 1, 1);
      f.addRegion(0, 1, 1);
      return f.setDelta(0, v, 0, 0, 0);
    });
    range("point of setDelta", -1, 0, 0, 1, Check.INDEX, (f, v) -> f.setDelta(0, 0, v, 0, 0));
    range("dx of setDelta", -1000, "1 -1592", 1000, "1 1608", Check.ARGUMENT,
        (f, v) -> f.setDelta(0, 0, 0, v, 0) + " " + varied(f).pointX(0, 0, false));
    range("dy of setDelta", -1000, "1 -1584", 1000, "1 1616", Check.ARGUMENT,
        (f, v) -> f.setDelta(0, 0, 0, 0, v) + " " + varied(f).pointY(0, 0, false));
    range("dx of the advance", -1000, "0 -1440", 1000, "0 1760", Check.ARGUMENT,
        (f, v) -> f.setDelta(0, 0, -1, v, 0) + " " + varied(f).advance(0, false));
    for (int dy : new int[] {-1001, -1000, 1000, 1001, Integer.MIN_VALUE, Integer.MAX_VALUE}) {
      taken("dy of the advance", dy, "0 160 0",
          (f, v) -> f.setDelta(0, 0, -1, 0, v) + " " + varied(f).advance(0, false) + " " + f.pointY(0, 2, false));
    }
  }

  private static HintForge varied(HintForge font) {
    font.setAxis(0, 100);
    return font;
  }

  private static void sizesAndRules() {
    // 100 units are 100 * size * 64 / 1000 64ths.
    range("size", 4, "25 26", 32, "25 205", Check.ARGUMENT,
        (f, v) -> f.setSize(v) + " " + f.advance(0, false));
    range("rule", 0, "0 0", 2, "0 2", Check.ARGUMENT, (f, v) -> f.setRule(v) + " " + f.setRule(1));
    taken("rule", 1, "0 1", (f, v) -> f.setRule(v) + " " + f.setRule(2));
  }

  private static void operand(char kind, int least, int greatest) {
    range("n of " + kind, least, 1, greatest, 1, Check.ARGUMENT, (f, v) -> f.addInstruction(0, kind, v));
    range("n of " + kind + " in a function", least, 1, greatest, 1, Check.ARGUMENT,
        (f, v) -> f.extendFunction(f.addFunction(), kind, v));
  }

  private static void operands() {
    operand('p', -99999, 99999);
    operand('R', 0, 5);
    operand('S', 0, 2);
    operand('j', -60, 60);
    operand('c', -60, 60);
    operand('C', 0, 3);
    String without = "dxo+-*/<=~MFZmirklbIDwvsqGHe";
    for (int i = 0; i < without.length(); i++) {
      char kind = without.charAt(i);
      for (int n : new int[] {-100000, -1, 100000, Integer.MIN_VALUE, Integer.MAX_VALUE}) {
        taken("no meaning with " + kind + " has", n, 1, (f, v) -> f.addInstruction(0, kind, v));
        taken("no meaning in a function with " + kind + " has", n, 1,
            (f, v) -> f.extendFunction(f.addFunction(), kind, v));
      }
    }
  }

  /** Signs whose low bits are those of a kind, and the first and the last signs. */
  private static void kindsAreNotNear() {
    for (int sign : new int[] {0, 1, 'p' + 256, 'p' + 65280, 'P', 'D' + 256, 'E', 'h', 65535, '-' + 256}) {
      refused("kind", sign, Check.ARGUMENT, (f, v) -> f.addInstruction(0, (char) v, 0));
      refused("kind in a function", sign, Check.ARGUMENT,
          (f, v) -> f.extendFunction(f.addFunction(), (char) v, 0));
    }
  }

  private static void functionsAndNumbers() {
    refused("function, of none", 0, Check.INDEX, (f, v) -> f.extendFunction(v, 'H', 0));
    range("function, of 1", 0, 1, 0, 1, Check.INDEX, (f, v) -> extended(f, 1, v));
    range("function, of 4", 0, 1, 3, 1, Check.INDEX, (f, v) -> extended(f, 4, v));
    range("number", -2000, "0 -3200", 2000, "0 3200", Check.ARGUMENT, (f, v) -> {
      int place = f.addNumber(v);
      Fonts.program(f, 0, "p0 H p0 v p0 G - D");
      return place + " " + f.pointX(0, 0, true);
    });
  }

  private static int extended(HintForge font, int functions, int value) {
    for (int i = 0; i < functions; i++) {
      font.addFunction();
    }
    return font.extendFunction(value, 'H', 0);
  }

  private static void pointsLookedAt() {
    // The own point, the begin and the end.
    range("pointX", 0, 8, 2, 160, Check.INDEX, (f, v) -> f.pointX(0, v, true));
    range("pointX, scaled", 0, 8, 2, 160, Check.INDEX, (f, v) -> f.pointX(0, v, false));
    range("pointY", 0, 16, 2, 0, Check.INDEX, (f, v) -> f.pointY(0, v, true));
    range("pointY, scaled", 0, 16, 2, 0, Check.INDEX, (f, v) -> f.pointY(0, v, false));
    range("pointX of a glyph without points", 0, 0, 1, 160, Check.INDEX,
        (f, v) -> f.pointX(f.addGlyph(100), v, true));
    range("pointX with a part", 0, 8, 3, 160, Check.INDEX, (f, v) -> {
      f.addPart(0, 1, 0, 0, 64);
      return f.pointX(0, v, true);
    });
  }

  private static void pixelsLookedAt() {
    range("x of pixel", 0, true, 47, true, Check.INDEX, (f, v) -> filled(f).pixel(2, v, 0));
    range("y of pixel", 0, true, 47, true, Check.INDEX, (f, v) -> filled(f).pixel(2, 0, v));
    range("y of rowOf", 0, 4800, 47, 4800, Check.INDEX, (f, v) -> filled(f).rowOf(2, v));
    range("x of colourAt", 0, 9, 47, 9, Check.INDEX, (f, v) -> filled(f).colourAt(2, v, 0));
    range("y of colourAt", 0, 9, 47, 9, Check.INDEX, (f, v) -> filled(f).colourAt(2, 0, v));
    range("x of colourAt without layers", 0, 0, 47, 0, Check.INDEX, (f, v) -> f.colourAt(0, v, 0));
    range("y of colourAt without layers", 0, 0, 47, 0, Check.INDEX, (f, v) -> f.colourAt(0, 0, v));
  }

  private static HintForge filled(HintForge font) {
    Fonts.box(font, -2000, -2000, 2000, 2000);
    font.addColour(2, 2, 9);
    return font;
  }

  private static void classesAndKernings() {
    range("left class", 0, "false false", 4, "true false", Check.ARGUMENT,
        (f, v) -> f.setClass(0, v, 0) + " " + f.setClass(0, v, 0));
    range("right class", 0, "false false", 4, "true false", Check.ARGUMENT,
        (f, v) -> f.setClass(0, 0, v) + " " + f.setClass(0, 0, v));
    range("right class of kern", 0, "0 5", 4, "0 5", Check.ARGUMENT,
        (f, v) -> f.kern(v, 2, 5) + " " + f.kern(v, 2, 0));
    range("left class of kern", 0, "0 5", 4, "0 5", Check.ARGUMENT,
        (f, v) -> f.kern(2, v, 5) + " " + f.kern(2, v, 0));
    // Two advances of 160, which are 192 on the grid, and 1600 less or more.
    range("kerning", -1000, "0 -1216", 1000, "0 1984", Check.ARGUMENT, (f, v) -> {
      int before = f.kern(0, 0, v);
      f.type(0);
      f.type(1);
      return before + " " + f.width();
    });
  }

  private static void colours() {
    range("colour", 1, "1 1", 9, "1 9", Check.ARGUMENT,
        (f, v) -> filledWithout(f).addColour(2, 2, v) + " " + f.colourAt(2, 0, 0));
  }

  private static HintForge filledWithout(HintForge font) {
    Fonts.box(font, -2000, -2000, 2000, 2000);
    return font;
  }
}
