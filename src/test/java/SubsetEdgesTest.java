/** What is in a subset, how long it is written, and that all that drawing needs is read again. */
public final class SubsetEdgesTest {
  private SubsetEdgesTest() {
  }

  public static void main(String[] args) {
    noneAndAll();
    chains();
    circles();
    lengths();
    deltasAreWritten();
    slotsAreReadAnew();
    allThatDrawingNeeds();
    lastDeltas();
    functionsAndTableOfTheWholeFont();
    askingChangesNothing();
    Check.end("SubsetEdgesTest");
  }

  private static HintForge fontOf(int glyphs) {
    HintForge font = Fonts.atSize25();
    for (int i = 0; i < glyphs; i++) {
      font.addGlyph(10 * i);
    }
    return font;
  }

  private static void noneAndAll() {
    HintForge font = fontOf(12);
    Check.same("none", font.subset(), 0);
    for (int i = 0; i < 12; i++) {
      int glyph = i;
      Check.raises("no number of " + i, Check.ELEMENT, () -> font.numberOf(glyph));
      Check.raises("not read: " + i, Check.ELEMENT, () -> font.isSame(glyph));
    }
    for (int i = 11; i >= 0; i--) {
      Check.same("was not kept", font.keep(i, true), false);
      Check.same("kept", font.subset(), 12 - i);
      Check.same("the first number", font.numberOf(i), 0);
      Check.same("the last number", font.numberOf(11), 11 - i);
      Check.same("written", font.written(), 4 + 3 * (12 - i));
    }
    for (int i = 0; i < 12; i++) {
      Check.same("all are numbered", font.numberOf(i), i);
      Check.same("all are the same", font.isSame(i), true);
    }
    for (int i = 0; i < 12; i++) {
      Check.same("was kept", font.keep(i, false), true);
      Check.same("no more", font.subset(), 11 - i);
    }
    Check.same("nor kept twice not", font.keep(0, false), false);
  }

  private static void chains() {
    HintForge font = fontOf(12);
    for (int i = 0; i < 11; i++) {
      if (i % 2 == 0) {
        font.addPart(i, i + 1, 0, 0, 64);
      } else {
        font.addColour(i, i + 1, 1);
      }
    }
    for (int i = 0; i < 12; i++) {
      font.keep(i, true);
      Check.same("from " + i + " on", font.subset(), 12 - i);
      Check.same("its number", font.numberOf(i), 0);
      Check.same("the last one", font.numberOf(11), 11 - i);
      font.keep(i, false);
    }
    HintForge back = fontOf(12);
    for (int i = 11; i > 0; i--) {
      if (i % 2 == 0) {
        back.addPart(i, i - 1, 0, 0, 64);
      } else {
        back.addColour(i, i - 1, 1);
      }
    }
    for (int i = 0; i < 12; i++) {
      back.keep(i, true);
      Check.same("down from " + i, back.subset(), i + 1);
      Check.same("its number is its own", back.numberOf(i), i);
      back.keep(i, false);
    }
  }

  private static void circles() {
    HintForge font = fontOf(4);
    font.addColour(0, 0, 1);
    font.addColour(1, 2, 1);
    font.addColour(2, 1, 1);
    font.keep(0, true);
    Check.same("a layer of itself", font.subset(), 1);
    font.keep(2, true);
    Check.same("a circle of layers", font.subset(), 3);
    Check.raises("one that none has", Check.ELEMENT, () -> font.numberOf(3));
    Check.same("written with its layers", font.written(), 4 + 9 + 6);
    Check.same("read", font.isSame(1), true);
  }

  private static void lengths() {
    HintForge font = fontOf(3);
    font.keep(1, true);
    Check.same("4 and 3", font.written(), 7);
    font.addPoint(1, 1, 1, true);
    Check.same("4 for a point", font.written(), 11);
    font.endContour(1);
    Check.same("none for a contour's end", font.written(), 11);
    font.addPoint(1, 2, 2, false);
    Check.same("4 for another one", font.written(), 15);
    font.addPart(1, 2, 0, 0, 64);
    Check.same("5 for a part, 3 for its glyph", font.written(), 23);
    font.addPart(1, 2, 0, 0, 64);
    Check.same("5 for a part again", font.written(), 28);
    font.addColour(1, 2, 1);
    Check.same("2 for a layer", font.written(), 30);
    font.addColour(1, 1, 1);
    Check.same("2 for a layer of itself", font.written(), 32);
    font.addInstruction(1, 'H', 0);
    font.addInstruction(2, 'H', 0);
    Check.same("2 for each instruction", font.written(), 36);
    font.addInstruction(0, 'H', 0);
    font.addPoint(0, 1, 1, true);
    font.addRegion(0, 1, 1);
    Check.same("none for a glyph that is not in it", font.written(), 36);
    font.clearProgram(2);
    Check.same("none for those taken away", font.written(), 34);
    font.addFunction();
    font.addFunction();
    Check.same("1 for each function", font.written(), 36);
    font.extendFunction(1, 'H', 0);
    Check.same("2 for its instruction", font.written(), 38);
    font.addNumber(0);
    Check.same("1 for a number", font.written(), 39);
    font.type(0);
    font.setClass(1, 1, 1);
    font.kern(1, 1, 1);
    font.pixels(1);
    Check.same("none for text, classes and drawings", font.written(), 39);
  }

  private static void deltasAreWritten() {
    HintForge font = fontOf(1);
    font.keep(0, true);
    font.addPoint(0, 1, 1, true);
    font.addPoint(0, 1, 1, true);
    Check.same("two points", font.written(), 15);
    font.addRegion(0, 1, 0);
    Check.same("4 for a region", font.written(), 19);
    font.setDelta(0, 0, -1, 0, 0);
    Check.same("4 for the advance, also by 0", font.written(), 23);
    font.setDelta(0, 0, -1, 5, 0);
    Check.same("once", font.written(), 23);
    font.setDelta(0, 0, 1, 0, 0);
    Check.same("4 for a delta, also of 0", font.written(), 27);
    font.setDelta(0, 0, 1, 7, 7);
    Check.same("once, too", font.written(), 27);
    font.addRegion(0, 0, 1);
    font.setDelta(0, 1, 1, 7, 7);
    Check.same("4 for both of another region", font.written(), 35);
    font.addRegion(0, 1, 1);
    Check.same("4 for a third region", font.written(), 39);
  }

  /** The same place of the subset holds another glyph each time: nothing of the last one is left. */
  private static void slotsAreReadAnew() {
    for (int kept = 0; kept < 8; kept++) {
      HintForge font = threeUnlike();
      for (int last = 0; last < 8; last++) {
        keepThose(font, last);
        sameOfThose(font, last);
        keepThose(font, kept);
        sameOfThose(font, kept);
      }
    }
  }

  private static HintForge threeUnlike() {
    HintForge font = Fonts.atSize25();
    Fonts.box(font, 0, 0, 400, 400);
    font.addPart(0, Fonts.box(font, 0, 0, 80, 80), 500, 500, 64);
    font.addRegion(0, 100, 0);
    for (int i = 0; i < 4; i++) {
      font.setDelta(0, 0, i, 300, 300);
    }
    font.setDelta(0, 0, -1, 300, 0);
    Fonts.program(font, 0, "p4 H p640 D p0 I");
    font.addColour(0, 1, 1);
    font.addRegion(1, 100, 0);
    font.setDelta(1, 0, 1, 200, 0);
    font.addGlyph(0);
    font.addPoint(2, 0, 0, true);
    font.addPoint(2, 200, 200, false);
    font.addPoint(2, 0, 400, true);
    font.addRegion(2, 100, 0);
    // Its point 0 goes to its end, so that a pixel tells of the advance.
    Fonts.program(font, 2, "p4 S0 p0 l");
    font.addPoint(1, 40, 40, true);
    font.addPoint(1, 40, 80, true);
    font.addPoint(1, 80, 80, true);
    Fonts.program(font, 1, "p8 S0 p4 l");
    font.setAxis(0, 100);
    return font;
  }

  private static void keepThose(HintForge font, int bits) {
    for (int i = 0; i < 3; i++) {
      font.keep(i, (bits >> i & 1) != 0);
    }
  }

  private static void sameOfThose(HintForge font, int bits) {
    for (int i = 0; i < 3; i++) {
      if ((bits >> i & 1) != 0) {
        Check.same("same " + i + " of " + bits, font.isSame(i), true);
      }
    }
  }

  private static void allThatDrawingNeeds() {
    HintForge font = Fonts.atSize25();
    font.addGlyph(50);
    Fonts.box(font, 0, 0, 120, 120);
    font.addNumber(300);
    font.addNumber(-300);
    Fonts.function(font, "p2 p0 i");
    Fonts.function(font, "p3 p1 v o p0 v p3 x H x D");
    Fonts.program(font, 1, "C0 C1 p0 I");
    font.keep(1, true);
    for (int size = 4; size <= 32; size += 7) {
      font.setSize(size);
      for (int rule = 0; rule < 3; rule++) {
        font.setRule(rule);
        for (int hinting = 0; hinting < 2; hinting++) {
          font.setHinting(hinting == 1);
          Check.same("size " + size + ", rule " + rule + ", hinting " + hinting, font.isSame(1), true);
        }
      }
    }
    font.setSize(25);
    font.setHinting(true);
    font.setRule(0);
    int hinted = font.pixels(1);
    font.setHinting(false);
    Check.same("hinting is seen", font.pixels(1) != hinted, true);
    for (int i = 0; i < 3; i++) {
      font.addRegion(1, i == 0 ? 100 : -10 * i, i == 2 ? 50 : 0);
      font.setDelta(1, i, i, 100 + 50 * i, 30 * i);
    }
    for (int value = -100; value <= 100; value += 20) {
      font.setAxis(0, value);
      font.setAxis(1, value);
      Check.same("axes at " + value, font.isSame(1), true);
    }
  }

  /** 40 deltas and the advance's: the last point and the end have a pixel each. */
  private static void lastDeltas() {
    HintForge font = Fonts.atSize25();
    font.addGlyph(100);
    for (int i = 0; i < 40; i++) {
      font.addPoint(0, i < 39 ? -2000 : 0, 40 * i, true);
    }
    font.addRegion(0, 100, 0);
    for (int i = 39; i >= -1; i--) {
      font.setDelta(0, 0, i, i == 39 ? 1000 : i == -1 ? 500 : 1, 0);
    }
    font.setAxis(0, 100);
    Fonts.program(font, 0, "p41 S0 p20 l");
    Check.same("the advance told", font.pointX(0, 20, true), 960);
    Check.same("the last point told", font.pointX(0, 39, true), 1600);
    font.keep(0, true);
    Check.same("all are written", font.written(), 4 + 3 + 160 + 4 + 4 * 41 + 8);
    Check.same("all are read", font.isSame(0), true);
  }

  private static void functionsAndTableOfTheWholeFont() {
    HintForge font = fontOf(2);
    Fonts.function(font, "H H");
    Fonts.function(font, "");
    font.addNumber(1);
    font.addNumber(2);
    Check.same("without a glyph", font.written(), 4 + 1 + 4 + 1 + 2);
    font.keep(0, true);
    Check.same("with one that uses none", font.written(), 4 + 3 + 1 + 4 + 1 + 2);
    Check.same("which is the same", font.isSame(0), true);
  }

  private static void askingChangesNothing() {
    HintForge font = Fonts.atSize25();
    font.addGlyph(0);
    Fonts.box(font, 0, 0, 120, 80);
    Fonts.program(font, 1, "p2 H p64 D p3 H p64 D");
    font.keep(1, true);
    String before = Fonts.x(font, 1) + DrawingTest.drawn(font, 1);
    font.isSame(1);
    font.isWound(1);
    font.written();
    font.subset();
    font.numberOf(1);
    font.fault(1);
    Check.same("as before", Fonts.x(font, 1) + DrawingTest.drawn(font, 1), before);
    Check.same("drawn once", font.drawings(), 1);
    Check.same("two glyphs still", font.points(0) + " " + font.points(1), "2 6");
  }
}
