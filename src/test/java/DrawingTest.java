/** Promises 24 to 27 and 43. */
public final class DrawingTest {
  private DrawingTest() {
  }

  public static void main(String[] args) {
    wrongInputs();
    edges();
    windings();
    shortContours();
    curves();
    contoursWithoutPointsOnTheCurve();
    hintedDrawing();
    thinStems();
    thinStemsAtBorders();
    thinBars();
    crossingsAtOnce();
    crossingsBetween1024ths();
    rowOf();
    inkShare();
    Check.end("DrawingTest");
  }

  /** The set pixels of a glyph as column.row, row by row. */
  static String drawn(HintForge font, int glyph) {
    StringBuilder all = new StringBuilder();
    for (int y = 0; y < 48; y++) {
      for (int x = 0; x < 48; x++) {
        if (font.pixel(glyph, x, y)) {
          all.append(all.length() == 0 ? "" : " ").append(x).append('.').append(y);
        }
      }
    }
    return all.toString();
  }

  private static void wrongInputs() {
    HintForge font = Fonts.atSize25();
    Check.raises("no glyph for pixel", Check.INDEX, () -> font.pixel(0, 0, 0));
    Check.raises("no glyph for pixels", Check.INDEX, () -> font.pixels(0));
    Check.raises("no glyph for rowOf", Check.INDEX, () -> font.rowOf(0, 0));
    Check.raises("no glyph for isWound", Check.INDEX, () -> font.isWound(0));
    Check.raises("no glyph for inkShare", Check.INDEX, () -> font.inkShare(0));
    font.addGlyph(0);
    Check.raises("column -1", Check.INDEX, () -> font.pixel(0, -1, 0));
    Check.raises("column 48", Check.INDEX, () -> font.pixel(0, 48, 0));
    Check.raises("row -1", Check.INDEX, () -> font.pixel(0, 0, -1));
    Check.raises("row 48", Check.INDEX, () -> font.pixel(0, 0, 48));
    Check.raises("row -1 of rowOf", Check.INDEX, () -> font.rowOf(0, -1));
    Check.raises("row 48 of rowOf", Check.INDEX, () -> font.rowOf(0, 48));
    Check.same("empty", font.pixel(0, 47, 47), false);
    Check.same("none", font.pixels(0), 0);
    Check.same("wound", font.isWound(0), true);
  }

  private static void edges() {
    HintForge font = Fonts.atSize25();
    Fonts.box(font, 0, 0, 80, 40);
    Check.same("box", drawn(font, 0), "8.8 9.8");
    Fonts.box(font, 20, 20, 60, 60);
    Check.same("edges at centres", drawn(font, 1), "8.8");
    Fonts.box(font, 21, 19, 61, 59);
    Check.same("edges beside centres", drawn(font, 2), "9.8");
    Fonts.box(font, -320, -320, 1600, 1600);
    Check.same("all", font.pixels(3), 2304);
    Fonts.box(font, -2000, -2000, 2000, 2000);
    Check.same("all and more", font.pixels(4), 2304);
    Fonts.box(font, 1570, 1570, 1590, 1590);
    Check.same("the last one", drawn(font, 5), "47.47");
    Fonts.box(font, -310, -310, -290, -290);
    Check.same("the first one", drawn(font, 6), "0.0");
  }

  private static void windings() {
    HintForge font = Fonts.atSize25();
    Fonts.box(font, 0, 0, 120, 40);
    Fonts.contour(font, 0, 40, 0, 40, 40, 160, 40, 160, 0);
    Check.same("twice is set", drawn(font, 0), "8.8 9.8 10.8 11.8");
    Fonts.box(font, 0, 0, 120, 40);
    Fonts.contour(font, 1, 40, 0, 160, 0, 160, 40, 40, 40);
    Check.same("back and forth is not", drawn(font, 1), "8.8 11.8");
    Fonts.glyph(font, 0, 0, 0, 80, 0, 80, 40, 0, 40);
    Check.same("the other way round", drawn(font, 2), "8.8 9.8");
    Check.same("wound 0", font.isWound(0), true);
    Check.same("wound 1", font.isWound(1), true);
    Fonts.glyph(font, 0, 0, 0, 0, 120, 120, 0);
    // The slanted line goes through centres: these are not left of it.
    Check.same("slanted", drawn(font, 3), "8.8 9.8 8.9");
    Fonts.glyph(font, 0, 0, 0, 120, 120, 120, 0);
    Check.same("slanted from the left", drawn(font, 4), "8.8 9.8 10.8 9.9 10.9 10.10");
    Check.same("slanted is wound", font.isWound(3), true);
  }

  private static void shortContours() {
    HintForge font = Fonts.atSize25();
    Fonts.glyph(font, 0, 20, 20);
    font.setRule(2);
    Check.same("one point", font.pixels(0), 0);
    Fonts.glyph(font, 0, 0, 0, 100, 100);
    Check.same("two points", font.pixels(1), 0);
    font.addGlyph(0);
    font.addPoint(2, 0, 0, true);
    font.addPoint(2, 0, 80, false);
    Check.same("two points with a curve there and a line back", font.pixels(2), 0);
    font.addGlyph(0);
    font.addPoint(3, 0, 0, true);
    font.addPoint(3, 0, 40, true);
    font.addPoint(3, 40, 40, true);
    font.addPoint(3, 40, 0, true);
    Check.same("not ended", drawn(font, 3), "8.8");
  }

  private static void curves() {
    HintForge font = Fonts.atSize25();
    font.addGlyph(0);
    // From (0, 0) over (0, 256) to (256, 256) and by a line back, in 64ths.
    font.addPoint(0, 0, 0, true);
    font.addPoint(0, 0, 160, false);
    font.addPoint(0, 160, 160, true);
    // At a quarter (16, 112), at a half (64, 192), at three quarters (144, 240).
    // Row 8, at 32: from 4.6 to 32. Row 9, at 96: from 13.7 to 96. Row 10, at 160: from 44.8.
    // Row 11, at 224: from 117.3 to 224.
    Check.same("curve", drawn(font, 0), "8.9 9.10 10.11");
    font.movePoint(0, 0, 0, -40);
    // Back by a line from (256, 256) to (0, -64): 76.8, 128, 179.2 and 230.4 at the centres.
    // Through (16, 84), (64, 176), (144, 236): from 12, 21.6, 55.7 and 128.
    Check.same("wider curve", drawn(font, 0), "8.8 8.9 9.9 9.10 10.10 10.11 11.11");
    Check.same("wound", font.isWound(0), true);
  }

  private static void contoursWithoutPointsOnTheCurve() {
    HintForge font = Fonts.atSize25();
    font.addGlyph(0);
    font.addPoint(0, 0, 0, false);
    font.addPoint(0, 0, 160, false);
    font.addPoint(0, 160, 160, false);
    font.addPoint(0, 160, 0, false);
    // A round one through (0, 128), (128, 256), (256, 128), (128, 0), with (32, 32), (32, 224) and
    // (224, 32) as its corners: a centre on the left one is left of nothing but the right one.
    Check.same("round", drawn(font, 0),
        "8.8 9.8 10.8 8.9 9.9 10.9 11.9 8.10 9.10 10.10 11.10 8.11 9.11 10.11");
    font.addGlyph(0);
    font.addPoint(1, 0, 0, false);
    font.addPoint(1, 160, 0, false);
    Check.same("two points off the curve", font.pixels(1), 0);
    Check.same("wound", font.isWound(0), true);
  }

  private static void hintedDrawing() {
    HintForge font = Fonts.atSize25();
    Fonts.box(font, 0, 0, 40, 40);
    Fonts.program(font, 0, "p2 H p64 D p3 H p64 D");
    Check.same("hinted", drawn(font, 0), "8.8 9.8");
    font.setHinting(false);
    Check.same("not hinted", drawn(font, 0), "8.8");
    font.setHinting(true);
    Fonts.program(font, 0, "p2 H p64 D p3 H p64 D o");
    Check.same("with a fault", drawn(font, 0), "8.8");
  }

  private static String byRules(HintForge font, int glyph) {
    StringBuilder all = new StringBuilder();
    for (int rule = 0; rule <= 2; rule++) {
      font.setRule(rule);
      all.append(rule == 0 ? "" : "; ").append(drawn(font, glyph));
    }
    return all.toString();
  }

  private static void thinStems() {
    HintForge font = Fonts.atSize25();
    Fonts.box(font, 25, 0, 30, 80);
    Check.same("thin stem", byRules(font, 0), "; 8.8 8.9; 8.8 8.9");
    Fonts.box(font, 35, 0, 45, 40);
    Check.same("in the middle: the left one", byRules(font, 1), "; 8.8; 8.8");
    Fonts.box(font, 36, 0, 46, 40);
    Check.same("right of the middle", byRules(font, 2), "; 9.8; 9.8");
    Fonts.box(font, 20, 0, 25, 40);
    Check.same("a centre at p", byRules(font, 3), "8.8; 8.8; 8.8");
    Fonts.box(font, 15, 0, 20, 40);
    Check.same("a centre at q", byRules(font, 4), "; 8.8; 8.8");
    Fonts.box(font, 25, 0, 30, 40);
    Fonts.contour(font, 5, 65, 0, 65, 40, 70, 40, 70, 0);
    Check.same("two stems", byRules(font, 5), "; 8.8 9.8; 8.8 9.8");
    Fonts.glyph(font, 0, 25, 0, 30, 0, 30, 40, 25, 40);
    Check.same("the other way round", byRules(font, 6), "; 8.8; 8.8");
    Fonts.box(font, 25, 0, 30, 40);
    Fonts.contour(font, 7, 30, 0, 30, 40, 35, 40, 35, 0);
    // At 30 the sum stays other than 0: those there count at once.
    Check.same("two that touch", byRules(font, 7), "; 8.8; 8.8");
  }

  private static void thinStemsAtBorders() {
    HintForge font = Fonts.atSize25();
    Fonts.box(font, 1615, 0, 1625, 40);
    Check.same("1024 right of the last one", byRules(font, 0), "; 47.8; 47.8");
    Fonts.box(font, 1616, 0, 1626, 40);
    Check.same("more than 1024", byRules(font, 1), "; ; ");
    Fonts.box(font, -345, 0, -335, 40);
    Check.same("1024 left of the first one", byRules(font, 2), "; 0.8; 0.8");
    Fonts.box(font, -346, 0, -336, 40);
    Check.same("more than 1024 left", byRules(font, 3), "; ; ");
    Fonts.box(font, -500, 0, -335, 40);
    Check.same("wide and outside", byRules(font, 4), "; ; ");
    Fonts.box(font, 0, 1615, 40, 1625);
    Check.same("1024 above the last one", byRules(font, 5), "; ; 8.47");
    Fonts.box(font, 0, -346, 40, -336);
    Check.same("more than 1024 below", byRules(font, 6), "; ; ");
  }

  private static void thinBars() {
    HintForge font = Fonts.atSize25();
    Fonts.box(font, 0, 25, 80, 30);
    Check.same("thin bar", byRules(font, 0), "; ; 8.8 9.8");
    Fonts.box(font, 0, 35, 40, 45);
    Check.same("in the middle: the lower one", byRules(font, 1), "; ; 8.8");
    Fonts.glyph(font, 0, 0, 25, 40, 25, 40, 30, 0, 30);
    Check.same("the other way round", byRules(font, 2), "; ; 8.8");
    Fonts.box(font, 25, 25, 30, 30);
    Check.same("a dot between centres", byRules(font, 3), "; ; ");
  }

  private static void crossingsAtOnce() {
    HintForge font = Fonts.atSize25();
    Fonts.glyph(font, 0, 25, 0, 25, 80);
    Check.same("no breadth", byRules(font, 0), "; ; ");
    Fonts.glyph(font, 0, 25, 0, 25, 40, 26, 40);
    // At the height 32 from 40 to 41: 5/8 of a pixel's 64th is told apart in 1024ths.
    Check.same("less than a 64th", byRules(font, 1), "; 8.8; 8.8");
  }

  /** The slanted line goes through the row of centres 8 at 512 * 1122 / 1120 = 512.9. */
  private static void crossingsBetween1024ths() {
    HintForge font = Fonts.atSize25();
    Fonts.glyph(font, 0, 0, 0, 701, 700, 0, 700);
    Check.same("a line just right of the centre", font.rowOf(0, 8), 108);
    Check.same("is found both ways", font.isWound(0), true);
    Fonts.glyph(font, 0, 0, 0, 701, 700, 820, 700);
    Check.same("a centre just left of the stem", font.rowOf(1, 8), 0);
    font.setRule(1);
    Check.same("rounded down, the stem has the centre", font.rowOf(1, 8), 0);
  }

  private static void rowOf() {
    HintForge font = Fonts.atSize25();
    Fonts.box(font, 40, 40, 160, 80);
    Check.same("three from 9", font.rowOf(0, 9), 309);
    Check.same("none", font.rowOf(0, 8), 0);
    Fonts.box(font, -320, 0, 1600, 40);
    Check.same("all", font.rowOf(1, 8), 4800);
    Fonts.contour(font, 0, 1560, 40, 1560, 80, 1600, 80, 1600, 40);
    Check.same("with a gap", font.rowOf(0, 9), 409);
    Fonts.box(font, 1560, 0, 1600, 40);
    Check.same("the last one", font.rowOf(2, 8), 147);
  }

  private static void inkShare() {
    HintForge font = Fonts.atSize25();
    Fonts.box(font, 0, 0, 120, 40);
    Check.same("3 of 2304", font.inkShare(0), 3f / 2304f);
    font.addGlyph(0);
    Check.same("none", font.inkShare(1), 0f);
    Fonts.box(font, -320, -320, 1600, 1600);
    Check.same("all", font.inkShare(2), 1f);
  }
}
