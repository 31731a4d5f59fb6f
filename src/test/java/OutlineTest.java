/** Promises 1 to 7, and the points of 19 and 20. */
public final class OutlineTest {
  private OutlineTest() {
  }

  public static void main(String[] args) {
    newObject();
    addGlyph();
    addPoint();
    endContour();
    movePoint();
    addPart();
    partsOfParts();
    points();
    pointsOutOfReach();
    Check.end("OutlineTest");
  }

  private static void newObject() {
    HintForge font = new HintForge();
    Check.raises("no glyph", Check.INDEX, () -> font.points(0));
    Check.same("new hits", font.hits(), 0);
    Check.same("new drawings", font.drawings(), 0);
    Check.same("new subset", font.subset(), 0);
    Check.same("new written", font.written(), 4);
    Check.same("new text", font.clearText(), 0);
    Check.same("new width", font.width(), 0);
    Check.same("new size", font.setSize(4), 12);
    Check.same("new rule", font.setRule(2), 0);
    Check.same("new hinting", font.setHinting(false), true);
    Check.same("new axis 0", font.setAxis(0, 1), 0);
    Check.same("new axis 1", font.setAxis(1, 1), 0);
    Check.same("new kerning", font.kern(4, 4, 1), 0);
    Check.raises("no function", Check.INDEX, () -> font.extendFunction(0, 'p', 1));
  }

  private static void addGlyph() {
    HintForge font = new HintForge();
    Check.raises("advance -1", Check.ARGUMENT, () -> font.addGlyph(-1));
    Check.raises("advance 2001", Check.ARGUMENT, () -> font.addGlyph(2001));
    for (int i = 0; i < 12; i++) {
      Check.same("glyph", font.addGlyph(i % 2 == 0 ? 0 : 2000), i);
    }
    Check.raises("13th glyph", Check.STATE, () -> font.addGlyph(5));
    Check.raises("13th glyph out of range", Check.ARGUMENT, () -> font.addGlyph(2001));
    Check.raises("glyph 12", Check.INDEX, () -> font.points(12));
    Check.raises("glyph -1", Check.INDEX, () -> font.points(-1));
  }

  private static void addPoint() {
    HintForge font = Fonts.atSize25();
    Check.raises("no glyph yet", Check.INDEX, () -> font.addPoint(0, 9999, 0, true));
    font.addGlyph(100);
    Check.raises("x -2001", Check.ARGUMENT, () -> font.addPoint(0, -2001, 0, true));
    Check.raises("x 2001", Check.ARGUMENT, () -> font.addPoint(0, 2001, 0, true));
    Check.raises("y -2001", Check.ARGUMENT, () -> font.addPoint(0, 0, -2001, true));
    Check.raises("y 2001", Check.ARGUMENT, () -> font.addPoint(0, 0, 2001, true));
    Check.same("first point", font.addPoint(0, -2000, 2000, true), 0);
    Check.same("its x", font.pointX(0, 0, false), -3200);
    Check.same("its y", font.pointY(0, 0, false), 3200);
    for (int i = 1; i < 40; i++) {
      Check.same("point", font.addPoint(0, 2000, -2000, i % 3 == 0), i);
    }
    Check.raises("41st point", Check.STATE, () -> font.addPoint(0, 0, 0, true));
    Check.raises("41st point out of range", Check.ARGUMENT, () -> font.addPoint(0, 0, 2001, true));
    Check.same("points after", font.points(0), 42);
  }

  private static void endContour() {
    HintForge font = new HintForge();
    Check.raises("end without glyph", Check.INDEX, () -> font.endContour(0));
    font.addGlyph(100);
    Check.raises("end without contour", Check.STATE, () -> font.endContour(0));
    font.addPoint(0, 1, 1, true);
    Check.same("one contour", font.endContour(0), 1);
    Check.raises("end of the ended one", Check.STATE, () -> font.endContour(0));
    Check.same("numbered on", font.addPoint(0, 2, 2, true), 1);
    font.addPoint(0, 3, 3, true);
    Check.same("two contours", font.endContour(0), 2);
  }

  private static void movePoint() {
    HintForge font = Fonts.atSize25();
    Check.raises("move without glyph", Check.INDEX, () -> font.movePoint(0, 0, 0, 0));
    Fonts.glyph(font, 100, 10, 20);
    Check.raises("no own point 1", Check.INDEX, () -> font.movePoint(0, 1, 0, 0));
    Check.raises("no own point -1", Check.INDEX, () -> font.movePoint(0, -1, 2001, 0));
    Check.raises("moved too far in x", Check.ARGUMENT, () -> font.movePoint(0, 0, 2001, 0));
    Check.raises("moved too far in y", Check.ARGUMENT, () -> font.movePoint(0, 0, 0, -2001));
    Check.same("x before", font.movePoint(0, 0, 50, -50), 10);
    Check.same("x before again", font.movePoint(0, 0, 100, -100), 50);
    Check.same("x", font.pointX(0, 0, false), 160);
    Check.same("y", font.pointY(0, 0, false), -160);
  }

  private static void addPart() {
    HintForge font = Fonts.atSize25();
    Fonts.glyph(font, 100, 5, -5, 3, -3);
    Check.raises("part of no glyph", Check.INDEX, () -> font.addPart(1, 0, 0, 0, 64));
    Check.raises("no other glyph", Check.INDEX, () -> font.addPart(0, 1, 9999, 0, 64));
    Fonts.glyph(font, 200, 100, 100);
    Check.raises("dx", Check.ARGUMENT, () -> font.addPart(1, 0, 2001, 0, 64));
    Check.raises("dy", Check.ARGUMENT, () -> font.addPart(1, 0, 0, -2001, 64));
    Check.raises("scale 0", Check.ARGUMENT, () -> font.addPart(1, 0, 0, 0, 0));
    Check.raises("scale 129", Check.ARGUMENT, () -> font.addPart(1, 1, 0, 0, 129));
    Check.raises("itself", Check.UNSUPPORTED, () -> font.addPart(1, 1, 0, 0, 64));
    Check.same("first part", font.addPart(1, 0, 0, 0, 32), 1);
    Check.raises("round about", Check.UNSUPPORTED, () -> font.addPart(0, 1, 0, 0, 32));
    Check.same("second part", font.addPart(1, 0, 1000, -1000, 1), 2);
    Check.same("third part", font.addPart(1, 0, -2000, 2000, 128), 3);
    Check.raises("fourth part", Check.STATE, () -> font.addPart(1, 0, 0, 0, 64));
    Check.raises("fourth part, itself", Check.UNSUPPORTED, () -> font.addPart(1, 1, 0, 0, 64));
    // Own point, then 5 and 3 halved to 3 and 2 units, then by a 64th, then doubled.
    Check.same("x", Fonts.xs(font, 1, false), "160 5 3 1600 1600 -3184 -3190 0 320");
    // -5 and -3 halved are -2 and -1 units.
    Check.same("y", Fonts.ys(font, 1, false), "160 -3 -2 -1600 -1600 3184 3190 0 0");
  }

  private static void partsOfParts() {
    HintForge font = Fonts.atSize25();
    Fonts.glyph(font, 100, 10, 20);
    Fonts.glyph(font, 100, 1, 1);
    Fonts.glyph(font, 100);
    font.addPart(1, 0, 5, 0, 32);
    font.addPart(2, 1, 0, 100, 128);
    font.addPart(2, 0, 0, 0, 64);
    // In units: 1 doubled; 10 halved, moved by 5, doubled; 10.
    Check.same("nested x", Fonts.xs(font, 2, false), "3 32 16 0 160");
    // In units: 2 + 100; 20 halved and doubled + 100; 20.
    Check.same("nested y", Fonts.ys(font, 2, false), "163 192 32 0 0");
    Check.raises("over two parts", Check.UNSUPPORTED, () -> font.addPart(0, 2, 0, 0, 64));
    Check.same("no circle", font.addPart(2, 1, 0, 0, 64), 3);
  }

  private static void points() {
    HintForge font = new HintForge();
    Fonts.glyph(font, 100, 1, 1, 2, 2);
    Check.same("own points", font.points(0), 4);
    for (int i = 1; i < 12; i++) {
      font.addGlyph(0);
      for (int j = 0; j < 3; j++) {
        font.addPart(i, i - 1, 0, 0, 64);
      }
    }
    Check.same("one level", font.points(1), 8);
    Check.same("eleven levels", font.points(11), 2 * 177147 + 2);
    HintForge bare = new HintForge();
    bare.addGlyph(10);
    for (int i = 1; i < 12; i++) {
      bare.addGlyph(0);
      for (int j = 0; j < 3; j++) {
        bare.addPart(i, i - 1, 0, 0, 64);
      }
    }
    Check.same("eleven bare levels", bare.points(11), 2);
    Check.same("drawn bare levels", bare.pixels(11), 0);
  }

  private static void pointsOutOfReach() {
    HintForge font = new HintForge();
    font.addGlyph(0);
    font.addGlyph(0);
    for (int i = 0; i < 40; i++) {
      font.addPoint(0, i, i, true);
    }
    for (int i = 0; i < 38; i++) {
      font.addPoint(1, i, i, true);
    }
    font.addPart(1, 0, 0, 0, 64);
    Check.same("80 points", font.points(1), 80);
    Check.same("a point of 80", font.pointX(1, 77, true), 30);
    Check.raises("no point 80", Check.INDEX, () -> font.pointX(1, 80, true));
    Check.raises("no point -1", Check.INDEX, () -> font.pointY(1, -1, true));
    font.addPoint(1, 0, 0, true);
    Check.same("81 points", font.points(1), 81);
    Check.raises("x of 81", Check.UNSUPPORTED, () -> font.pointX(1, 0, false));
    Check.raises("y of 81", Check.UNSUPPORTED, () -> font.pointY(1, 80, false));
    Check.raises("no x 81", Check.INDEX, () -> font.pointX(1, 81, false));
    Check.raises("no y 81", Check.INDEX, () -> font.pointY(1, 81, false));
    Check.raises("no glyph for x", Check.INDEX, () -> font.pointX(2, 0, false));
    Check.raises("no glyph for y", Check.INDEX, () -> font.pointY(-1, 0, false));
    Check.raises("fault of 81", Check.UNSUPPORTED, () -> font.fault(1));
    Check.raises("isExact of 81", Check.UNSUPPORTED, () -> font.isExact(1));
    Check.raises("steps of 81", Check.UNSUPPORTED, () -> font.steps(1));
    Check.raises("pixel of 81", Check.UNSUPPORTED, () -> font.pixel(1, 0, 0));
    Check.raises("pixels of 81", Check.UNSUPPORTED, () -> font.pixels(1));
    Check.raises("rowOf of 81", Check.UNSUPPORTED, () -> font.rowOf(1, 0));
    Check.raises("isWound of 81", Check.UNSUPPORTED, () -> font.isWound(1));
    Check.raises("advance of 81", Check.UNSUPPORTED, () -> font.advance(1, true));
    Check.raises("scaled advance of 81", Check.UNSUPPORTED, () -> font.advance(1, false));
    Check.raises("inkShare of 81", Check.UNSUPPORTED, () -> font.inkShare(1));
    Check.raises("pixel 48 of 81", Check.INDEX, () -> font.pixel(1, 48, 0));
    Check.raises("row 48 of 81", Check.INDEX, () -> font.rowOf(1, 48));
    Check.raises("not in the subset", Check.ELEMENT, () -> font.isSame(1));
    font.keep(1, true);
    Check.raises("isSame of 81", Check.UNSUPPORTED, () -> font.isSame(1));
    Check.same("nothing was drawn", font.drawings(), 0);
  }
}
