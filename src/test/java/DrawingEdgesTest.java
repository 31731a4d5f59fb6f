/**
 * Contours of few points and without a point on the curve, the points of a curve, centres that a
 * line just touches, and the dropout rules at the edges of the 48 columns and rows.
 */
public final class DrawingEdgesTest {
  private DrawingEdgesTest() {
  }

  public static void main(String[] args) {
    contoursOfFewPoints();
    contoursBetweenOthers();
    firstPointOffTheCurve();
    noPointOnTheCurve();
    quartersOfACurve();
    middlesBelow0();
    linesAtCentres();
    pointsAtCentres();
    windingsThatCancel();
    mostPoints();
    stemsInEachRow();
    barsInEachColumn();
    stemsBesideTheColumns();
    barsBesideTheRows();
    middlesBetweenCentres();
    overlaps();
    columnsCrossedToTheRight();
    roundedDown();
    Check.end("DrawingEdgesTest");
  }

  /** Adds points in pixels, off the curve if the third number is 0; at size 25 a pixel is 40 units. */
  private static void curve(HintForge font, int glyph, int... at) {
    for (int i = 0; i < at.length; i += 3) {
      font.addPoint(glyph, 40 * at[i], 40 * at[i + 1], at[i + 2] != 0);
    }
    font.endContour(glyph);
  }

  private static String byRules(HintForge font, int glyph) {
    StringBuilder all = new StringBuilder();
    for (int rule = 0; rule <= 2; rule++) {
      font.setRule(rule);
      all.append(rule == 0 ? "" : "; ").append(DrawingTest.drawn(font, glyph));
    }
    return all.toString();
  }

  private static void drawnAs(String what, String due, int... units) {
    HintForge font = Fonts.atSize25();
    Fonts.glyph(font, 0, units);
    Check.same(what, byRules(font, 0), due);
    String last = due.substring(due.lastIndexOf(';') + 1).trim();
    Check.same(what + " counted", font.pixels(0), last.isEmpty() ? 0 : last.split(" ").length);
    Check.same(what + " is wound", font.isWound(0), true);
  }

  private static void contoursOfFewPoints() {
    HintForge font = Fonts.atSize25();
    font.addGlyph(500);
    Check.same("no contour", byRules(font, 0), "; ; ");
    Check.same("no contour is wound", font.isWound(0), true);
    for (int kinds = 0; kinds < 2; kinds++) {
      int glyph = font.addGlyph(0);
      font.addPoint(glyph, 25, 25, kinds == 1);
      Check.same("one point", byRules(font, glyph), "; ; ");
      font.endContour(glyph);
      Check.same("one point, ended", byRules(font, glyph), "; ; ");
    }
    for (int kinds = 0; kinds < 4; kinds++) {
      int glyph = font.addGlyph(0);
      font.addPoint(glyph, -40, -90, kinds % 2 == 1);
      font.addPoint(glyph, 200, 400, kinds / 2 == 1);
      Check.same("two points " + kinds, byRules(font, glyph), "; ; ");
      Check.same("two points are wound", font.isWound(glyph), true);
    }
  }

  private static void contoursBetweenOthers() {
    HintForge font = Fonts.atSize25();
    Fonts.glyph(font, 0, 0, 0, 0, 40, 40, 40, 40, 0);
    Fonts.contour(font, 0, 300, 300);
    Fonts.contour(font, 0, 80, 0, 80, 40, 120, 40, 120, 0);
    Check.same("one point between two boxes", byRules(font, 0), "8.8 10.8; 8.8 10.8; 8.8 10.8");
    font.addPoint(0, 600, 600, false);
    Check.same("and one that is not ended", byRules(font, 0), "8.8 10.8; 8.8 10.8; 8.8 10.8");
    font.addPoint(0, 640, 600, true);
    font.addPoint(0, 640, 640, true);
    font.addPoint(0, 600, 640, true);
    // From (640, 600) over (640, 640), (600, 640), and back over (600, 600).
    Check.same("not ended, drawn", DrawingTest.drawn(font, 0), "8.8 10.8 23.23");
  }

  private static void firstPointOffTheCurve() {
    HintForge font = Fonts.atSize25();
    font.addGlyph(0);
    curve(font, 0, 25, 25, 0, -7, 25, 1, -7, -7, 1, 25, -7, 1);
    font.addGlyph(0);
    curve(font, 1, -7, 25, 1, -7, -7, 1, 25, -7, 1, 25, 25, 0);
    font.addGlyph(0);
    curve(font, 2, 25, -7, 1, 25, 25, 0, -7, 25, 1, -7, -7, 1);
    for (int y = 0; y < 48; y++) {
      Check.same("row " + y, font.rowOf(0, y), font.rowOf(1, y));
      Check.same("row " + y + " too", font.rowOf(2, y), font.rowOf(1, y));
    }
    Check.same("19 above -7, as below", font.rowOf(0, 20), 2701);
    // Two off the curve next to each other, the last one and the first one: (25, 9) is between.
    font.addGlyph(0);
    curve(font, 3, 25, 25, 0, -7, 25, 1, -7, -7, 1, 25, -7, 0);
    font.addGlyph(0);
    curve(font, 4, 25, 9, 1, 25, 25, 0, -7, 25, 1, -7, -7, 1, 25, -7, 0);
    for (int y = 0; y < 48; y++) {
      Check.same("row " + y + " with a middle", font.rowOf(3, y), font.rowOf(4, y));
    }
    Check.same("up to the middle", font.rowOf(3, 16), 3201);
  }

  private static void noPointOnTheCurve() {
    HintForge font = Fonts.atSize25();
    font.addGlyph(0);
    curve(font, 0, -7, -5, 0, -3, 31, 0, 37, 27, 0, 25, -7, 0);
    font.addGlyph(0);
    // The same with the points between: (9, -6), (-5, 13), (17, 29), (31, 10).
    curve(font, 1, 9, -6, 1, -7, -5, 0, -5, 13, 1, -3, 31, 0, 17, 29, 1, 37, 27, 0, 31, 10, 1, 25, -7, 0);
    font.addGlyph(0);
    curve(font, 2, 37, 27, 0, 25, -7, 0, -7, -5, 0, -3, 31, 0);
    for (int y = 0; y < 48; y++) {
      Check.same("row " + y, font.rowOf(0, y), font.rowOf(1, y));
      Check.same("row " + y + " from another one", font.rowOf(2, y), font.rowOf(1, y));
    }
    // At 9.5, from (-4.875, 5.0625) to (-5, 13) and from (31, 10) to (27.375, 2.625): -4.9 and 30.8.
    Check.same("near two middles", font.rowOf(0, 17), 3603);
    font.addGlyph(0);
    curve(font, 3, 0, 0, 0, 24, 0, 0, 0, 24, 0);
    // At 3.5, from (0.75, 6.75) to (3, 3) and from (18, 3) to (16.5, 6.75): 2.7 and 17.8.
    Check.same("three points", font.rowOf(3, 8 + 3), 1511);
    Check.same("three points, wound", font.isWound(3), true);
  }

  /** From (32, 0) over (32, 32) to (0, 32) by (30, 14), (24, 24), (14, 30): columns per row. */
  private static final int[] COLUMNS = {
    32, 32, 32, 31, 31, 31, 31, 31, 31, 31, 30, 30, 30, 30, 30, 29,
    28, 28, 27, 27, 26, 25, 25, 24, 23, 21, 20, 18, 16, 15, 10, 3
  };

  private static void quartersOfACurve() {
    for (int shift = -8; shift <= 8; shift++) {
      HintForge font = Fonts.atSize25();
      font.addGlyph(0);
      curve(font, 0, shift, shift, 1, 32 + shift, shift, 1, 32 + shift, 32 + shift, 0, shift, 32 + shift, 1);
      for (int y = 0; y < 48; y++) {
        int row = y - 8 - shift;
        int columns = row >= 0 && row < 32 ? COLUMNS[row] : 0;
        Check.same("row " + y + " by " + shift, font.rowOf(0, y), columns == 0 ? 0 : 100 * columns + 8 + shift);
      }
    }
    HintForge font = Fonts.atSize25();
    font.addGlyph(0);
    // The same the other way round, and turned over: x and y changed.
    curve(font, 0, 0, 0, 1, 0, 32, 1, 32, 32, 0, 32, 0, 1);
    for (int row = 0; row < 32; row++) {
      Check.same("turned row " + row, font.rowOf(0, 8 + row), 100 * COLUMNS[row] + 8);
    }
  }

  /** (-34, -32) and (-29, 96), in 64ths, have (-32, 32) between them, not (-31, 32). */
  private static void middlesBelow0() {
    HintForge font = Fonts.atSize25();
    font.addGlyph(0);
    font.addPoint(0, -100, -100, true);
    font.addPoint(0, -21, -20, false);
    font.addPoint(0, -18, 60, false);
    font.addPoint(0, -100, 100, true);
    Check.same("its points", Fonts.xs(font, 0, false) + ", " + Fonts.ys(font, 0, false),
        "-160 -34 -29 -160 0 0, -160 -32 96 160 0 0");
    Check.same("the middle in x", font.rowOf(0, 8), 205);
    font.addGlyph(0);
    font.addPoint(1, -100, -200, true);
    font.addPoint(1, 160, -101, false);
    font.addPoint(1, -200, 62, false);
    font.addPoint(1, -300, 100, true);
    Check.same("its points too", Fonts.xs(font, 1, false) + ", " + Fonts.ys(font, 1, false),
        "-160 256 -320 -480 0 0, -320 -162 99 160 0 0");
    // (256, -162) and (-320, 99) have (-32, -32) between them; the line back is at -352 there.
    Check.same("the middle in y", font.rowOf(1, 7), 502);
    font.addGlyph(0);
    font.addPoint(2, -18, 60, false);
    font.addPoint(2, -200, 60, false);
    font.addPoint(2, -200, -20, false);
    font.addPoint(2, -21, -20, false);
    // Between the last and the first one is the same middle; on the left it is (-320, 32).
    Check.same("the middle of the last and the first one", font.rowOf(2, 8), 403);
  }

  private static void linesAtCentres() {
    drawnAs("a left edge at a centre", "8.8; 8.8; 8.8", 20, 0, 20, 40, 40, 40, 40, 0);
    drawnAs("a right edge at a centre", "; 8.8; 8.8", 0, 0, 0, 40, 20, 40, 20, 0);
    drawnAs("a lower edge at a centre", "8.8; 8.8; 8.8", 0, 20, 0, 40, 40, 40, 40, 20);
    drawnAs("an upper edge at a centre", "; ; 8.8", 0, 0, 0, 20, 40, 20, 40, 0);
    drawnAs("edges at four centres", "8.8; 8.8; 8.8", 20, 20, 20, 60, 60, 60, 60, 20);
    drawnAs("a slanted left edge through centres", "8.8 9.8 10.8 9.9 10.9 10.10; 8.8 9.8 10.8 9.9 10.9 10.10; "
        + "8.8 9.8 10.8 9.9 10.9 10.10", 0, 0, 120, 120, 120, 0);
    drawnAs("a slanted right edge through centres", "8.9 8.10 9.10; 8.8 8.9 8.10 9.10; "
        + "8.8 8.9 8.10 9.10", 0, 0, 0, 120, 120, 120);
  }

  private static void pointsAtCentres() {
    drawnAs("a corner below at a centre", "8.9; 8.9; 8.9", 20, 20, -20, 80, 60, 80);
    drawnAs("a corner above at a centre", "8.8; 8.8; 8.8", 20, 60, -20, 0, 60, 0);
    drawnAs("a corner on the left at a centre", "8.8; 8.8; 8.8", 20, 20, 39, 40, 39, 0);
    drawnAs("a corner on the right at a centre", "; 8.8; 8.8", 20, 20, 1, 40, 1, 0);
    // A line that goes on up through a centre's height crosses it once.
    drawnAs("a corner on the way", "8.8 8.9; 8.8 8.9; 8.8 8.9", 0, 0, 5, 20, 0, 80, 40, 80, 40, 0);
    // A level line in a centre's height crosses nothing.
    drawnAs("a step at a centre's height", "9.8 8.9 9.9; 9.8 8.9 9.9; 9.8 8.9 9.9",
        40, 0, 40, 60, 0, 60, 0, 80, 80, 80, 80, 0);
  }

  private static void windingsThatCancel() {
    HintForge font = Fonts.atSize25();
    Fonts.box(font, 0, 0, 120, 120);
    Fonts.contour(font, 0, 40, 40, 80, 40, 80, 80, 40, 80);
    Check.same("a hole", DrawingTest.drawn(font, 0), "8.8 9.8 10.8 8.9 10.9 8.10 9.10 10.10");
    Fonts.box(font, 0, 0, 120, 120);
    Fonts.contour(font, 1, 40, 40, 40, 80, 80, 80, 80, 40);
    Check.same("no hole", font.pixels(1), 9);
    Fonts.box(font, 0, 0, 120, 120);
    Fonts.contour(font, 2, 0, 0, 120, 0, 120, 120, 0, 120);
    Check.same("once up and once down", byRules(font, 2), "; ; ");
    Check.same("is wound", font.isWound(2), true);
  }

  /** 78 points of contours, all off the curve, make 312 lines; the last four of them show. */
  private static void mostPoints() {
    HintForge font = Fonts.atSize25();
    font.addGlyph(0);
    for (int i = 0; i < 38; i++) {
      font.addPoint(0, -2000, 1000 - 50 * i, false);
    }
    font.addGlyph(0);
    for (int i = 0; i < 36; i++) {
      font.addPoint(1, -1900, 1000 - 50 * i, false);
    }
    font.endContour(1);
    font.addPoint(1, 0, 0, false);
    font.addPoint(1, 0, 160, false);
    font.addPoint(1, 160, 160, false);
    font.addPoint(1, 160, 0, false);
    font.addGlyph(0);
    font.addPart(2, 0, 0, 0, 64);
    font.addPart(2, 1, 0, 0, 64);
    Check.same("80 points", font.points(2), 80);
    Check.same("the last contour", DrawingTest.drawn(font, 2),
        "8.8 9.8 10.8 8.9 9.9 10.9 11.9 8.10 9.10 10.10 11.10 8.11 9.11 10.11");
    Check.same("is wound", font.isWound(2), true);
  }

  private static int[] box(int left, int bottom, int right, int top) {
    return new int[] {left, bottom, left, top, right, top, right, bottom};
  }

  private static String pixels(int from, int to, int at, boolean isRow) {
    StringBuilder all = new StringBuilder();
    for (int i = from; i <= to; i++) {
      all.append(i == from ? "" : " ").append(isRow ? at + "." + i : i + "." + at);
    }
    return all.toString();
  }

  private static void stemsInEachRow() {
    String all = pixels(0, 47, 8, true);
    drawnAs("a stem in all rows", "; " + all + "; " + all, box(25, -2000, 30, 2000));
    drawnAs("in the lowest row alone", "; 8.0; 8.0", box(25, -2000, 30, -290));
    drawnAs("in the highest row alone", "; 8.47; 8.47", box(25, 1570, 30, 2000));
    drawnAs("below the lowest row", "; ; ", box(25, -2000, 30, -300));
    drawnAs("above the highest row", "; ; ", box(25, 1581, 30, 2000));
  }

  private static void barsInEachColumn() {
    String all = pixels(0, 47, 8, false);
    drawnAs("a bar in all columns", "; ; " + all, box(-2000, 25, 2000, 30));
    drawnAs("in the first column alone", "; ; 0.8", box(-2000, 25, -290, 30));
    drawnAs("in the last column alone", "; ; 47.8", box(1570, 25, 2000, 30));
    drawnAs("left of the first column", "; ; ", box(-2000, 25, -300, 30));
    drawnAs("right of the last column", "; ; ", box(1581, 25, 2000, 30));
  }

  /** The first centre is at -300 units, the last one at 1580; 1024 are 40 units. */
  private static void stemsBesideTheColumns() {
    drawnAs("40 right of the last centre", "; 47.8; 47.8", box(1615, 0, 1625, 40));
    drawnAs("more than 40 right of it", "; ; ", box(1615, 0, 1626, 40));
    drawnAs("less than 40 right of it", "; 47.8; 47.8", box(1615, 0, 1624, 40));
    drawnAs("40 left of the first centre", "; 0.8; 0.8", box(-345, 0, -335, 40));
    drawnAs("more than 40 left of it", "; ; ", box(-346, 0, -335, 40));
    drawnAs("less than 40 left of it", "; 0.8; 0.8", box(-344, 0, -335, 40));
    drawnAs("just right of the last centre", "; 47.8; 47.8", box(1581, 0, 1582, 40));
    drawnAs("just left of the first centre", "; 0.8; 0.8", box(-302, 0, -301, 40));
    drawnAs("from far left to the first centre", "; ; ", box(-400, 0, -300, 40));
    drawnAs("from 80 left to the first centre", "; 0.8; 0.8", box(-380, 0, -300, 40));
    drawnAs("from far left over the first centre", "0.8; 0.8; 0.8", box(-400, 0, -299, 40));
    drawnAs("from the last centre to far right", "47.8; 47.8; 47.8", box(1580, 0, 2000, 40));
    drawnAs("from right of the last centre to 80 right", "; ; ", box(1581, 0, 1660, 40));
    drawnAs("from right of the last centre to 79 right", "; 47.8; 47.8", box(1581, 0, 1659, 40));
  }

  private static void barsBesideTheRows() {
    drawnAs("40 above the last centre", "; ; 8.47", box(0, 1615, 40, 1625));
    drawnAs("more than 40 above it", "; ; ", box(0, 1615, 40, 1626));
    drawnAs("40 below the first centre", "; ; 8.0", box(0, -345, 40, -335));
    drawnAs("more than 40 below it", "; ; ", box(0, -346, 40, -335));
    drawnAs("from far below to the first centre", "; ; ", box(0, -400, 40, -300));
    drawnAs("from 80 below to the first centre", "; ; 8.0", box(0, -380, 40, -300));
    drawnAs("from right above the last centre to 80 above", "; ; ", box(0, 1581, 40, 1660));
    drawnAs("from right above the last centre to 79 above", "; ; 8.47", box(0, 1581, 40, 1659));
  }

  private static void middlesBetweenCentres() {
    drawnAs("the middle between two centres", "; 8.8; 8.8", box(35, 0, 45, 40));
    drawnAs("half a 64th left of it", "; 8.8; 8.8", box(34, 0, 45, 40));
    drawnAs("half a 64th right of it", "; 9.8; 9.8", box(35, 0, 46, 40));
    drawnAs("the middle in height", "; ; 8.8", box(0, 35, 40, 45));
    drawnAs("half a 64th below it", "; ; 8.8", box(0, 34, 40, 45));
    drawnAs("half a 64th above it", "; ; 8.9", box(0, 35, 40, 46));
    drawnAs("left of 0", "; 6.8; 6.8", box(-45, 0, -35, 40));
    drawnAs("right of that", "; 7.8; 7.8", box(-45, 0, -34, 40));
    drawnAs("as wide as a pixel", "8.8; 8.8; 8.8", box(20, 0, 60, 40));
    // From 34 to 96 and to 93, in 64ths: the middle is 65 and 63.5, and 64 is half way.
    drawnAs("a little less wide", "; 9.8; 9.8", box(21, 0, 60, 40));
    drawnAs("still less wide", "; 8.8; 8.8", box(21, 0, 58, 40));
  }

  private static void overlaps() {
    HintForge font = Fonts.atSize25();
    Fonts.glyph(font, 0, box(22, 0, 28, 40));
    Fonts.contour(font, 0, box(25, 0, 31, 40));
    Check.same("two that overlap count once", byRules(font, 0), "; 8.8; 8.8");
    Fonts.glyph(font, 0, box(22, 0, 28, 40));
    Fonts.contour(font, 1, box(55, 0, 58, 40));
    Check.same("two apart", byRules(font, 1), "; 8.8 9.8; 8.8 9.8");
    Fonts.glyph(font, 0, box(22, 0, 30, 40));
    Fonts.contour(font, 2, 30, 0, 58, 0, 58, 40, 30, 40);
    // One goes up and the other one down at 30: -1 there is no 0, so that p is 22 and q is 58.
    Check.same("one against the other", byRules(font, 2), "; 8.8; 8.8");
    Fonts.glyph(font, 0, box(22, 0, 58, 40));
    Fonts.contour(font, 3, 30, 0, 50, 0, 50, 40, 30, 40);
    // At 30 the sum is 0 again, at 50 it is not.
    Check.same("a hole in it", byRules(font, 3), "; 8.8 9.8; 8.8 9.8");
    Fonts.glyph(font, 0, box(22, 0, 30, 40));
    Fonts.contour(font, 4, 22, 0, 30, 0, 30, 40, 22, 40);
    Check.same("one upon the other", byRules(font, 4), "; ; ");
    Fonts.glyph(font, 0, box(22, 0, 28, 40));
    Fonts.contour(font, 5, box(22, 0, 59, 40));
    // The sum is 2 at 22, 1 at 28 and 0 at 59: the middle is 64.5, right of 64.
    Check.same("two from the same x on", byRules(font, 5), "; 9.8; 9.8");
    Fonts.glyph(font, 0, box(21, 0, 58, 40));
    Fonts.contour(font, 6, box(52, 0, 58, 40));
    Check.same("two up to the same x", byRules(font, 6), "; 8.8; 8.8");
  }

  /** In a column the lines to the right count 1: what cancels in rows does so in columns. */
  private static void columnsCrossedToTheRight() {
    HintForge font = Fonts.atSize25();
    Fonts.glyph(font, 0, box(0, 22, 40, 28));
    Fonts.contour(font, 0, box(0, 25, 40, 31));
    Check.same("two that overlap", byRules(font, 0), "; ; 8.8");
    Fonts.glyph(font, 0, box(0, 22, 40, 30));
    Fonts.contour(font, 1, 0, 30, 40, 30, 40, 58, 0, 58);
    Check.same("one against the other", byRules(font, 1), "; ; 8.8");
    Fonts.glyph(font, 0, box(0, 22, 40, 58));
    Fonts.contour(font, 2, 0, 30, 40, 30, 40, 50, 0, 50);
    Check.same("a hole in it", byRules(font, 2), "; ; 8.8 8.9");
    Fonts.glyph(font, 0, box(20, 22, 60, 28));
    Check.same("from centre to centre", byRules(font, 3), "; ; 8.8");
    Fonts.glyph(font, 0, box(21, 22, 61, 28));
    Check.same("beside centres", byRules(font, 4), "; ; 9.8");
  }

  /** A crossing between two 1024ths is rounded down, in columns too. */
  private static void roundedDown() {
    HintForge font = Fonts.atSize25();
    font.setRule(1);
    Fonts.glyph(font, 0, 0, 0, 701, 700, 820, 700);
    // Its left edge goes through the lowest row at 512.9, which is no more right of the centre.
    Check.same("rounded down to a centre", font.rowOf(0, 8), 0);
    Fonts.glyph(font, 0, -320, 0, 381, 700, 500, 700);
    Check.same("rounded down to the first centre", font.rowOf(1, 8), 0);
    // Its lower edge goes through the column 8 at 512.9, its upper one at 608: it has the centre,
    // which is right of 511.09, the edge in the row 8.
    Fonts.glyph(font, 0, -200, 0, -200, 24, 700, 24, 700, 701, 0, 0);
    font.setRule(2);
    Check.same("rounded down in a column", font.pixel(2, 8, 8), false);
    Check.same("left of it", font.pixel(2, 7, 8), true);
    font.setSize(12);
    // In 64ths, from 63 to the line from (65, 0) to (67, 1024): from 1008 to 1041 in 1024ths.
    Fonts.glyph(font, 0, 82, 0, 82, 1333, 87, 1333, 84, 0);
    Check.same("its points", Fonts.xs(font, 3, false) + ", " + font.pointY(3, 1, false), "63 63 67 65 0 0, 1024");
    Check.same("a middle half a 1024th right of 1024", font.pixel(3, 9, 8) + " " + font.pixel(3, 8, 8), "true false");
    Fonts.glyph(font, 0, 82, 0, 82, 1333, 84, 1333, 84, 0);
    Check.same("a middle at 1024", font.pixel(4, 9, 8) + " " + font.pixel(4, 8, 8), "false true");
  }
}
