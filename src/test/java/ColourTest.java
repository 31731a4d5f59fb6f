/** Promises 34 and 35. */
public final class ColourTest {
  private ColourTest() {
  }

  public static void main(String[] args) {
    addColour();
    colourAt();
    asksFromTheLast();
    tooManyPoints();
    coveredAsDrawn();
    Check.end("ColourTest");
  }

  private static void addColour() {
    HintForge font = new HintForge();
    Check.raises("no glyph", Check.INDEX, () -> font.addColour(0, 0, 0));
    font.addGlyph(0);
    Check.raises("no other glyph", Check.INDEX, () -> font.addColour(0, 1, 0));
    Check.raises("colour 0", Check.ARGUMENT, () -> font.addColour(0, 0, 0));
    Check.raises("colour 10", Check.ARGUMENT, () -> font.addColour(0, 0, 10));
    for (int i = 1; i <= 4; i++) {
      Check.same("layer", font.addColour(0, 0, i == 1 ? 1 : 9), i);
    }
    Check.raises("fifth layer", Check.STATE, () -> font.addColour(0, 0, 1));
    Check.raises("fifth layer of colour 0", Check.ARGUMENT, () -> font.addColour(0, 0, 0));
  }

  private static void colourAt() {
    HintForge font = Fonts.atSize25();
    Check.raises("no glyph", Check.INDEX, () -> font.colourAt(0, 0, 0));
    Fonts.box(font, 0, 0, 120, 40);
    Fonts.box(font, 40, 0, 80, 80);
    Check.same("no layers", font.colourAt(0, 8, 8), 0);
    Check.raises("column 48", Check.INDEX, () -> font.colourAt(0, 48, 0));
    Check.raises("row 48", Check.INDEX, () -> font.colourAt(0, 0, 48));
    Check.raises("column -1", Check.INDEX, () -> font.colourAt(0, -1, 0));
    Check.raises("row -1", Check.INDEX, () -> font.colourAt(0, 0, -1));
    font.addColour(0, 0, 3);
    font.addColour(0, 1, 5);
    Check.same("below", font.colourAt(0, 8, 8), 3);
    Check.same("the last one", font.colourAt(0, 9, 8), 5);
    Check.same("outside itself", font.colourAt(0, 9, 9), 5);
    Check.same("none", font.colourAt(0, 8, 9), 0);
    font.addColour(1, 0, 7);
    Check.same("layers of layers do not count", font.colourAt(0, 10, 8), 3);
    Check.same("not itself", font.colourAt(1, 9, 9), 0);
  }

  private static void asksFromTheLast() {
    HintForge font = Fonts.atSize25();
    Fonts.box(font, 0, 0, 120, 40);
    Fonts.box(font, 40, 0, 80, 80);
    font.addColour(0, 0, 3);
    font.addColour(0, 1, 5);
    font.colourAt(0, 9, 8);
    Check.same("the last one is enough", font.drawings(), 1);
    font.colourAt(0, 8, 8);
    Check.same("both", font.drawings(), 2);
    Check.same("one hit", font.hits(), 1);
    font.colourAt(0, 20, 20);
    Check.same("two hits more", font.hits(), 3);
  }

  private static void tooManyPoints() {
    HintForge font = Fonts.atSize25();
    Fonts.box(font, 0, 0, 40, 40);
    font.addGlyph(0);
    for (int i = 0; i < 40; i++) {
      font.addPoint(1, i, i, true);
    }
    font.addGlyph(0);
    font.addPart(2, 1, 0, 0, 64);
    font.addPart(2, 1, 0, 0, 64);
    font.addColour(2, 2, 9);
    font.addColour(2, 0, 4);
    Check.same("not looked at", font.colourAt(2, 8, 8), 4);
    Check.same("drawn", font.drawings(), 1);
    Check.raises("looked at", Check.UNSUPPORTED, () -> font.colourAt(2, 9, 8));
    Check.same("no hit by a throw", font.hits(), 0);
    font.addPoint(0, 1, 1, true);
    Check.raises("looked at, and nothing kept", Check.UNSUPPORTED, () -> font.colourAt(2, 9, 8));
    Check.same("no drawing by a throw", font.drawings(), 1);
    font.pixels(0);
    Check.same("nor was it kept", font.drawings(), 2);
    Check.raises("column ahead of points", Check.INDEX, () -> font.colourAt(2, 48, 8));
  }

  /** Four layers, the first one of too many points: what covers it is hinted, as it is drawn. */
  private static void coveredAsDrawn() {
    HintForge font = Fonts.atSize25();
    Fonts.box(font, 0, 0, 40, 40);
    font.addGlyph(0);
    for (int i = 0; i < 40; i++) {
      font.addPoint(1, i, i, true);
    }
    font.addGlyph(0);
    font.addPart(2, 1, 0, 0, 64);
    font.addPart(2, 1, 0, 0, 64);
    font.addColour(0, 2, 1);
    font.addColour(0, 0, 2);
    Fonts.program(font, 0, "p0 H p64 D p1 H p64 D p2 H p64 D p3 H p64 D");
    Check.same("covered where it is moved to", font.colourAt(0, 9, 8), 2);
    Check.raises("not where it was", Check.UNSUPPORTED, () -> font.colourAt(0, 8, 8));
    font.setHinting(false);
    Check.same("covered where it was", font.colourAt(0, 8, 8), 2);
    Check.raises("not where it is moved to", Check.UNSUPPORTED, () -> font.colourAt(0, 9, 8));
    font.addColour(0, 1, 3);
    font.addColour(0, 1, 4);
    Check.same("covered by the second one of four", font.colourAt(0, 8, 8), 2);
    Check.raises("covered by none of four", Check.UNSUPPORTED, () -> font.colourAt(0, 9, 8));
    font.addColour(1, 0, 5);
    font.addColour(1, 0, 6);
    font.addColour(1, 0, 7);
    font.addColour(1, 2, 8);
    Check.raises("too many at once", Check.UNSUPPORTED, () -> font.colourAt(1, 8, 8));
  }
}
