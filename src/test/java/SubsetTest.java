/** Promises 36 to 40. */
public final class SubsetTest {
  private SubsetTest() {
  }

  public static void main(String[] args) {
    keep();
    reach();
    written();
    largest();
    isSame();
    Check.end("SubsetTest");
  }

  private static void keep() {
    HintForge font = new HintForge();
    Check.raises("no glyph to keep", Check.INDEX, () -> font.keep(0, true));
    Check.raises("no glyph to number", Check.INDEX, () -> font.numberOf(0));
    Check.raises("no glyph to compare", Check.INDEX, () -> font.isSame(0));
    font.addGlyph(0);
    font.addGlyph(0);
    Check.raises("not in it", Check.ELEMENT, () -> font.numberOf(0));
    Check.raises("not in it to compare", Check.ELEMENT, () -> font.isSame(0));
    Check.same("was not kept", font.keep(1, true), false);
    Check.same("was kept", font.keep(1, true), true);
    Check.same("one", font.subset(), 1);
    Check.same("numbered from 0", font.numberOf(1), 0);
    font.keep(0, true);
    Check.same("numbered on", font.numberOf(1), 1);
    Check.same("was kept then", font.keep(1, false), true);
    Check.same("one again", font.subset(), 1);
    Check.raises("gone", Check.ELEMENT, () -> font.numberOf(1));
  }

  private static void reach() {
    HintForge font = new HintForge();
    for (int i = 0; i < 8; i++) {
      font.addGlyph(0);
    }
    font.addPart(5, 2, 0, 0, 64);
    font.addColour(2, 7, 1);
    font.addColour(7, 5, 1);
    font.addPart(7, 3, 0, 0, 64);
    font.addPart(0, 5, 0, 0, 64);
    font.keep(2, true);
    Check.same("over parts and layers", font.subset(), 4);
    Check.same("2", font.numberOf(2), 0);
    Check.same("3", font.numberOf(3), 1);
    Check.same("5", font.numberOf(5), 2);
    Check.same("7", font.numberOf(7), 3);
    Check.raises("0 has them, they have it not", Check.ELEMENT, () -> font.numberOf(0));
    Check.same("is not kept by that", font.keep(3, false), false);
    Check.same("four still", font.subset(), 4);
  }

  private static void written() {
    HintForge font = new HintForge();
    Fonts.box(font, 0, 0, 40, 40);
    font.addGlyph(0);
    Check.same("the font", font.written(), 4);
    font.addNumber(5);
    Check.same("a number", font.written(), 5);
    font.addFunction();
    Check.same("a function", font.written(), 6);
    font.extendFunction(0, 'H', 0);
    Check.same("its instruction", font.written(), 8);
    font.keep(1, true);
    Check.same("a glyph", font.written(), 11);
    font.addInstruction(1, 'H', 0);
    Check.same("an instruction", font.written(), 13);
    font.addRegion(1, 100, 0);
    Check.same("a region", font.written(), 17);
    font.setDelta(1, 0, -1, 0, 0);
    Check.same("the advance's delta", font.written(), 21);
    font.addPoint(1, 1, 1, true);
    Check.same("a point", font.written(), 25);
    font.setDelta(1, 0, 0, 0, 0);
    font.setDelta(1, 0, 0, 1, 1);
    Check.same("a delta", font.written(), 29);
    font.addPart(1, 0, 0, 0, 64);
    Check.same("a part with a box", font.written(), 29 + 5 + 3 + 16);
    font.addColour(1, 0, 1);
    Check.same("a layer", font.written(), 55);
    font.clearProgram(1);
    Check.same("without the instruction", font.written(), 53);
    font.keep(1, false);
    Check.same("the font alone", font.written(), 8);
  }

  private static void largest() {
    HintForge font = new HintForge();
    for (int i = 0; i < 12; i++) {
      font.addGlyph(0);
    }
    for (int glyph = 0; glyph < 2; glyph++) {
      for (int i = 0; i < 40; i++) {
        font.addPoint(glyph, i, 30 * (i % 2), true);
      }
      for (int i = 0; i < 3; i++) {
        font.addRegion(glyph, 100, 0);
        for (int j = -1; j < 40; j++) {
          font.setDelta(glyph, i, j, j, -j);
        }
      }
      font.keep(glyph, true);
    }
    Check.same("as large as may be", font.written(), 4 + 2 * (3 + 160 + 12 + 492));
    font.setAxis(0, 77);
    Check.same("read again", font.isSame(1), true);
  }

  private static void isSame() {
    HintForge font = Fonts.atSize25();
    font.addGlyph(0);
    Fonts.box(font, 0, 0, 120, 120);
    Fonts.contour(font, 1, 40, 40, 80, 40, 80, 80, 40, 80);
    font.addPoint(1, 200, 0, false);
    font.addPoint(1, 200, 200, false);
    font.addGlyph(300);
    font.addPart(2, 1, 40, 0, 100);
    font.addPart(2, 1, 0, 300, 32);
    font.addNumber(50);
    Fonts.function(font, "p2 p0 i");
    Fonts.program(font, 2, "C0 p0 I");
    font.addRegion(1, 100, 0);
    font.setDelta(1, 0, 3, 70, 30);
    font.setAxis(0, 60);
    font.setRule(2);
    font.keep(2, true);
    Check.same("the part", font.isSame(1), true);
    Check.same("the composite", font.isSame(2), true);
    Check.same("something is drawn", font.pixels(2) > 0, true);
    Check.same("one drawing", font.drawings(), 1);
    Check.same("still the same", font.isSame(2), true);
    Check.same("the cache is not asked", font.drawings() + font.hits(), 1);
    font.setHinting(false);
    Check.same("not hinted", font.isSame(2), true);
    Check.raises("not in it", Check.ELEMENT, () -> font.isSame(0));
  }
}
