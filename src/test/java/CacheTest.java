/** Promises 41 and 42. */
public final class CacheTest {
  private CacheTest() {
  }

  public static void main(String[] args) {
    whatAsks();
    whatTellsApart();
    theLongestAgoGoes();
    whatEmpties();
    whatDoesNotEmpty();
    throwsChangeNothing();
    Check.end("CacheTest");
  }

  private static String counts(HintForge font) {
    return font.hits() + " " + font.drawings();
  }

  private static void whatAsks() {
    HintForge font = Fonts.atSize25();
    Fonts.box(font, 0, 0, 40, 40);
    font.addColour(0, 0, 2);
    font.keep(0, true);
    font.isWound(0);
    font.isSame(0);
    font.advance(0, true);
    font.pointX(0, 0, true);
    Check.same("none asked", counts(font), "0 0");
    font.pixel(0, 8, 8);
    Check.same("drawn", counts(font), "0 1");
    font.pixels(0);
    Check.same("pixels", counts(font), "1 1");
    font.rowOf(0, 3);
    Check.same("rowOf", counts(font), "2 1");
    font.inkShare(0);
    Check.same("inkShare", counts(font), "3 1");
    font.colourAt(0, 8, 8);
    Check.same("colourAt", counts(font), "4 1");
    font.pixel(0, 47, 0);
    Check.same("pixel", counts(font), "5 1");
    font.isWound(0);
    font.isSame(0);
    Check.same("isWound and isSame", counts(font), "5 1");
  }

  private static void whatTellsApart() {
    HintForge font = Fonts.atSize25();
    Fonts.box(font, 0, 0, 40, 40);
    font.pixels(0);
    font.setAxis(0, 1);
    font.pixels(0);
    Check.same("axis 0", counts(font), "0 2");
    font.setAxis(0, 0);
    font.setAxis(1, 1);
    font.pixels(0);
    Check.same("axis 1", counts(font), "0 3");
    font.setAxis(1, 0);
    font.pixels(0);
    Check.same("back", counts(font), "1 3");
    font.setHinting(false);
    font.pixels(0);
    Check.same("hinting", counts(font), "1 4");
    font.setRule(1);
    font.pixels(0);
    Check.same("rule", counts(font), "1 5");
    font.setSize(26);
    font.pixels(0);
    Check.same("size", counts(font), "1 6");
    font.setSize(25);
    font.pixels(0);
    Check.same("size back", counts(font), "2 6");
  }

  private static void theLongestAgoGoes() {
    HintForge font = Fonts.atSize25();
    for (int i = 0; i < 5; i++) {
      Fonts.box(font, 0, 0, 40 * (i + 1), 40);
    }
    for (int i = 0; i < 4; i++) {
      Check.same("four", font.pixels(i), i + 1);
    }
    Check.same("asked again", font.pixels(0), 1);
    Check.same("the fifth", font.pixels(4), 5);
    Check.same("five drawings", counts(font), "1 5");
    Check.same("0 was asked for", font.pixels(0), 1);
    Check.same("0 is kept", counts(font), "2 5");
    Check.same("1 was not", font.pixels(1), 2);
    Check.same("1 went", counts(font), "2 6");
    Check.same("then 2 went", font.pixels(2), 3);
    Check.same("drawn", counts(font), "2 7");
    Check.same("4 is kept", font.pixels(4), 5);
    Check.same("hit", counts(font), "3 7");
  }

  private static void emptied(HintForge font, String what, Check.Call call) {
    font.pixels(1);
    font.pixels(1);
    int before = font.drawings();
    call.answer();
    font.pixels(1);
    Check.same(what + " empties", font.drawings(), before + 1);
  }

  private static void whatEmpties() {
    HintForge font = Fonts.atSize25();
    font.addGlyph(0);
    Fonts.box(font, 0, 0, 40, 40);
    font.addGlyph(0);
    emptied(font, "addPoint", () -> font.addPoint(0, 0, 0, true));
    emptied(font, "endContour", () -> font.endContour(0));
    emptied(font, "movePoint", () -> font.movePoint(0, 0, 0, 0));
    emptied(font, "addPart", () -> font.addPart(0, 2, 0, 0, 64));
    emptied(font, "addRegion", () -> font.addRegion(0, 1, 1));
    emptied(font, "setDelta", () -> font.setDelta(0, 0, 0, 0, 0));
    emptied(font, "addInstruction", () -> font.addInstruction(0, 'H', 0));
    emptied(font, "clearProgram", () -> font.clearProgram(0));
    emptied(font, "clearProgram of none", () -> font.clearProgram(0));
    emptied(font, "addFunction", () -> font.addFunction());
    emptied(font, "extendFunction", () -> font.extendFunction(0, 'H', 0));
    emptied(font, "addNumber", () -> font.addNumber(0));
    Check.same("hits stay", font.hits(), 23);
  }

  private static void whatDoesNotEmpty() {
    HintForge font = Fonts.atSize25();
    Fonts.box(font, 0, 0, 40, 40);
    font.pixels(0);
    font.addGlyph(100);
    font.setAxis(0, 0);
    font.setSize(25);
    font.setHinting(true);
    font.setRule(0);
    font.setClass(0, 1, 1);
    font.kern(1, 1, 1);
    font.type(0);
    font.clearText();
    font.addColour(0, 1, 1);
    font.keep(0, true);
    font.subset();
    font.written();
    font.pixels(0);
    Check.same("kept", counts(font), "1 1");
  }

  private static void throwsChangeNothing() {
    HintForge font = Fonts.atSize25();
    Fonts.box(font, 0, 0, 40, 40);
    font.pixels(0);
    Check.raises("addPoint", Check.ARGUMENT, () -> font.addPoint(0, 9999, 0, true));
    Check.raises("endContour", Check.STATE, () -> font.endContour(0));
    Check.raises("movePoint", Check.INDEX, () -> font.movePoint(0, 9, 0, 0));
    Check.raises("addPart", Check.UNSUPPORTED, () -> font.addPart(0, 0, 0, 0, 64));
    Check.raises("addRegion", Check.ARGUMENT, () -> font.addRegion(0, 0, 0));
    Check.raises("setDelta", Check.INDEX, () -> font.setDelta(0, 0, 0, 0, 0));
    Check.raises("addInstruction", Check.ARGUMENT, () -> font.addInstruction(0, '?', 0));
    Check.raises("clearProgram", Check.INDEX, () -> font.clearProgram(1));
    Check.raises("extendFunction", Check.INDEX, () -> font.extendFunction(0, 'H', 0));
    Check.raises("addNumber", Check.ARGUMENT, () -> font.addNumber(2001));
    Check.raises("pixel", Check.INDEX, () -> font.pixel(0, 48, 0));
    font.pixels(0);
    Check.same("kept", counts(font), "1 1");
  }
}
