/** Promises 8 to 11, and what they change of 19, 20 and 28. */
public final class VariationTest {
  private VariationTest() {
  }

  public static void main(String[] args) {
    setAxis();
    addRegion();
    setDelta();
    setSize();
    spreadRoundAContour();
    spreadBetween();
    spreadOfEqualOnes();
    contoursApart();
    weights();
    roundingOfEach();
    advances();
    partsAreVariedFirst();
    Check.end("VariationTest");
  }

  private static void setAxis() {
    HintForge font = new HintForge();
    Check.raises("axis 2", Check.INDEX, () -> font.setAxis(2, 999));
    Check.raises("axis -1", Check.INDEX, () -> font.setAxis(-1, 0));
    Check.raises("value 101", Check.ARGUMENT, () -> font.setAxis(0, 101));
    Check.raises("value -101", Check.ARGUMENT, () -> font.setAxis(1, -101));
    Check.same("axis 0 before", font.setAxis(0, 100), 0);
    Check.same("axis 1 before", font.setAxis(1, -100), 0);
    Check.same("axis 0 then", font.setAxis(0, 7), 100);
    Check.same("axis 1 then", font.setAxis(1, 7), -100);
  }

  private static void addRegion() {
    HintForge font = new HintForge();
    Check.raises("region without glyph", Check.INDEX, () -> font.addRegion(0, 0, 0));
    font.addGlyph(0);
    Check.raises("peaks 0", Check.ARGUMENT, () -> font.addRegion(0, 0, 0));
    Check.raises("peak 101", Check.ARGUMENT, () -> font.addRegion(0, 101, 0));
    Check.raises("peak -101", Check.ARGUMENT, () -> font.addRegion(0, 1, -101));
    Check.same("region 0", font.addRegion(0, 100, 0), 0);
    Check.same("region 1", font.addRegion(0, 0, -100), 1);
    Check.same("region 2", font.addRegion(0, 1, 1), 2);
    Check.raises("region 3", Check.STATE, () -> font.addRegion(0, 1, 1));
    Check.raises("region 3 out of range", Check.ARGUMENT, () -> font.addRegion(0, 0, 0));
  }

  private static void setDelta() {
    HintForge font = new HintForge();
    Check.raises("delta without glyph", Check.INDEX, () -> font.setDelta(0, 0, 0, 0, 0));
    Fonts.glyph(font, 100, 0, 0, 10, 0);
    Check.raises("delta without region", Check.INDEX, () -> font.setDelta(0, 0, 0, 0, 0));
    font.addRegion(0, 100, 0);
    font.addRegion(0, 0, 100);
    Check.raises("delta of no point", Check.INDEX, () -> font.setDelta(0, 0, 2, 9999, 0));
    Check.raises("delta of point -2", Check.INDEX, () -> font.setDelta(0, 0, -2, 0, 0));
    Check.raises("region -1", Check.INDEX, () -> font.setDelta(0, -1, 0, 0, 0));
    Check.raises("dx 1001", Check.ARGUMENT, () -> font.setDelta(0, 0, 0, 1001, 0));
    Check.raises("dy -1001", Check.ARGUMENT, () -> font.setDelta(0, 0, 0, 0, -1001));
    Check.raises("advance 1001", Check.ARGUMENT, () -> font.setDelta(0, 0, -1, 1001, 0));
    Check.same("the advance does not count", font.setDelta(0, 0, -1, 1000, -1000), 0);
    Check.same("dy 1001 of the advance", font.setDelta(0, 0, -1, 0, 1001), 0);
    Check.same("no dy is too low", font.setDelta(0, 0, -1, 0, Integer.MIN_VALUE), 0);
    Check.raises("dx -1001 and dy", Check.ARGUMENT, () -> font.setDelta(0, 0, -1, -1001, 5000));
    Check.same("one told", font.setDelta(0, 0, 1, -1000, 1000), 1);
    Check.same("told again", font.setDelta(0, 0, 1, 5, 5), 1);
    Check.same("told 0", font.setDelta(0, 0, 0, 0, 0), 2);
    Check.same("another region", font.setDelta(0, 1, 0, 0, 0), 1);
  }

  private static void setSize() {
    HintForge font = new HintForge();
    Check.raises("size 3", Check.ARGUMENT, () -> font.setSize(3));
    Check.raises("size 33", Check.ARGUMENT, () -> font.setSize(33));
    Fonts.glyph(font, 100, 1, -1, 1000, -1000, 7, -7);
    Check.same("size 12 x", Fonts.xs(font, 0, false), "1 768 5 0 77");
    Check.same("size 12 y", Fonts.ys(font, 0, false), "-1 -768 -5 0 0");
    Check.same("before", font.setSize(4), 12);
    Check.same("size 4 x", Fonts.xs(font, 0, false), "0 256 2 0 26");
    Check.same("before then", font.setSize(32), 4);
    Check.same("size 32 x", Fonts.xs(font, 0, false), "2 2048 14 0 205");
    Check.same("size 32 y", Fonts.ys(font, 0, false), "-2 -2048 -14 0 0");
  }

  private static void spreadRoundAContour() {
    HintForge font = Fonts.atSize25();
    Fonts.glyph(font, 100, 0, 0, 100, 0, 200, 100, 0, 100);
    font.addRegion(0, 100, 0);
    font.setDelta(0, 0, 1, 50, 20);
    font.setDelta(0, 0, 3, -30, 10);
    font.setAxis(0, 50);
    // In units: -15 125 225 -15, and 10 10 105 105.
    Check.same("round x", Fonts.xs(font, 0, false), "-24 200 360 -24 0 160");
    Check.same("round y", Fonts.ys(font, 0, false), "16 16 168 168 0 0");
    Check.same("hinted alike", Fonts.x(font, 0), "-24 200 360 -24 0 160");
  }

  /** The shift in units that spreading gives to v between 0 and 100. */
  private static int shifted(int v, int p, int q) {
    HintForge font = new HintForge();
    Fonts.glyph(font, 0, 0, 0, v, 0, 100, 0);
    font.addRegion(0, 100, 0);
    font.setDelta(0, 0, 0, p, 0);
    font.setDelta(0, 0, 2, q, 0);
    font.setAxis(0, 100);
    int at = -5000;
    font.setSize(32);
    int got = font.pointX(0, 1, false);
    while (Math.floorDiv(at * 32 * 128 + 1000, 2000) < got) {
      at++;
    }
    return at - v;
  }

  private static void spreadBetween() {
    Check.same("2.1 units", shifted(30, 0, 7), 2);
    Check.same("-2.1 units", shifted(30, 0, -7), -2);
    Check.same("2.5 units", shifted(25, 0, 10), 3);
    Check.same("-2.5 units", shifted(25, 0, -10), -2);
    Check.same("1000 less 2.5", shifted(25, 1000, 990), 998);
    Check.same("below", shifted(-1, 40, 80), 40);
    Check.same("at the lesser", shifted(0, 40, 80), 40);
    Check.same("at the greater", shifted(100, 40, 80), 80);
    Check.same("above", shifted(101, 40, 80), 80);
  }

  private static void spreadOfEqualOnes() {
    HintForge font = Fonts.atSize25();
    Fonts.glyph(font, 0, 0, 0, 50, 50, 0, 100);
    font.addRegion(0, 100, 0);
    font.setDelta(0, 0, 0, 10, 0);
    font.setDelta(0, 0, 2, 20, 0);
    font.setAxis(0, 100);
    Check.same("10 and 20 give 0", font.pointX(0, 1, false), 80);
    font.setDelta(0, 0, 2, 10, 0);
    Check.same("10 and 10 give 10", font.pointX(0, 1, false), 96);
  }

  private static void contoursApart() {
    HintForge font = Fonts.atSize25();
    Fonts.glyph(font, 0, 0, 0, 50, 0);
    Fonts.contour(font, 0, 100, 0, 200, 0, 400, 0);
    font.addRegion(0, 100, 0);
    font.setDelta(0, 0, 3, 5, 10);
    font.setAxis(0, 100);
    Check.same("the only one", Fonts.xs(font, 0, false), "0 80 168 328 648 0 0");
    Check.same("the only one, y", Fonts.ys(font, 0, false), "0 0 16 16 16 0 0");
    font.setAxis(0, 0);
    Check.same("at 0", Fonts.xs(font, 0, false), "0 80 160 320 640 0 0");
  }

  /** The shift in 64ths that a delta gives to a point at 0, at size 25. */
  private static int weighted(int first, int second, int valueFirst, int valueSecond, int delta) {
    HintForge font = Fonts.atSize25();
    Fonts.glyph(font, 0, 0, 0);
    font.addRegion(0, first, second);
    font.setDelta(0, 0, 0, delta, 0);
    font.setAxis(0, valueFirst);
    font.setAxis(1, valueSecond);
    return font.pointX(0, 0, false);
  }

  private static void weights() {
    Check.same("a half", weighted(100, 0, 50, 99, 100), 80);
    Check.same("a half of less than 0", weighted(-80, 0, -40, 0, 100), 80);
    Check.same("other sign", weighted(100, 0, -50, 0, 100), 0);
    Check.same("value 0", weighted(100, 0, 0, 0, 100), 0);
    Check.same("at the peak", weighted(50, 0, 50, 0, 100), 160);
    Check.same("beyond the peak", weighted(50, 0, 100, 0, 100), 160);
    Check.same("beyond the peak below 0", weighted(0, -20, 5, -21, 100), 160);
    Check.same("a quarter", weighted(100, 50, 50, 25, 100), 40);
    Check.same("half by 0", weighted(100, 50, 50, 0, 100), 0);
    Check.same("2.5 units", weighted(100, 50, 50, 25, 10), 5);
    Check.same("-2.5 units", weighted(100, 50, 50, 25, -10), -3);
    Check.same("a peak of 1", weighted(1, 0, 1, 0, 100), 160);
    Check.same("a peak of -1", weighted(0, -1, 0, -1, 100), 160);
    Check.same("a peak of -1 on the other side", weighted(0, -1, 0, 1, 100), 0);
    Check.same("thirds are exact", weighted(3, 0, 1, 0, 3), 2);
    Check.same("two thirds of a half", weighted(3, 4, 2, 2, 9), 5);
  }

  private static void roundingOfEach() {
    HintForge font = Fonts.atSize25();
    Fonts.glyph(font, 0, 0, 0);
    font.addRegion(0, 100, 0);
    font.addRegion(0, 0, 100);
    font.setDelta(0, 0, 0, 1, -1);
    font.setDelta(0, 1, 0, 1, -1);
    font.setAxis(0, 50);
    font.setAxis(1, 50);
    // Each half becomes 1, each -1/2 becomes 0.
    Check.same("two halves", font.pointX(0, 0, false), 3);
    Check.same("two halves below 0", font.pointY(0, 0, false), 0);
  }

  private static void advances() {
    HintForge font = Fonts.atSize25();
    Fonts.glyph(font, 100, 5, 5);
    font.addRegion(0, 100, 0);
    font.setAxis(0, 50);
    Check.same("no delta", font.advance(0, false), 160);
    font.setDelta(0, 0, -1, -401, 77777);
    // 100 and floor(-200.5 + 0.5) units.
    Check.same("below 0", font.advance(0, false), -160);
    Check.same("end x", font.pointX(0, 2, false), -160);
    Check.same("end y", font.pointY(0, 2, false), 0);
    Check.same("begin x", font.pointX(0, 1, false), 0);
    Check.same("hinted", font.advance(0, true), -128);
    Check.same("the point stays", font.pointX(0, 0, false), 8);
  }

  private static void partsAreVariedFirst() {
    HintForge font = Fonts.atSize25();
    Fonts.glyph(font, 0, 10, 0);
    font.addGlyph(300);
    font.addPart(1, 0, 7, 0, 128);
    font.addRegion(0, 0, -100);
    font.setDelta(0, 0, 0, 20, -10);
    font.setDelta(0, 0, -1, 500, 0);
    font.setAxis(1, -100);
    // In units: (10 + 20) * 2 + 7 and -10 * 2.
    Check.same("x of the part", Fonts.xs(font, 1, false), "107 0 480");
    Check.same("y of the part", Fonts.ys(font, 1, false), "-32 0 0");
  }
}
