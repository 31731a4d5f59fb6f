/** Promises 28 to 33 and 44. */
public final class MetricsTest {
  private MetricsTest() {
  }

  public static void main(String[] args) {
    advance();
    setClass();
    kern();
    type();
    width();
    meanAdvance();
    tooManyPoints();
    Check.end("MetricsTest");
  }

  private static void advance() {
    HintForge font = Fonts.atSize25();
    Check.raises("advance of no glyph", Check.INDEX, () -> font.advance(0, true));
    font.addGlyph(60);
    Check.same("scaled", font.advance(0, false), 96);
    Check.same("rounded up at a half", font.advance(0, true), 128);
    font.addGlyph(59);
    Check.same("scaled 59", font.advance(1, false), 94);
    Check.same("rounded down", font.advance(1, true), 64);
    Fonts.program(font, 0, "p1 H p-40 D p0 H p-42 D");
    // From -42 to 56.
    Check.same("hinted", font.advance(0, true), 128);
    Check.same("scaled still", font.advance(0, false), 96);
    font.setHinting(false);
    Check.same("hinting off", font.advance(0, true), 128);
  }

  private static void setClass() {
    HintForge font = new HintForge();
    Check.raises("no glyph", Check.INDEX, () -> font.setClass(0, 9, 0));
    font.addGlyph(0);
    Check.raises("left 5", Check.ARGUMENT, () -> font.setClass(0, 5, 0));
    Check.raises("left -1", Check.ARGUMENT, () -> font.setClass(0, -1, 0));
    Check.raises("right 5", Check.ARGUMENT, () -> font.setClass(0, 0, 5));
    Check.same("0 at first", font.setClass(0, 0, 0), false);
    Check.same("left", font.setClass(0, 4, 0), true);
    Check.same("left again", font.setClass(0, 4, 0), false);
    Check.same("right", font.setClass(0, 4, 3), true);
    Check.same("both", font.setClass(0, 3, 4), true);
  }

  private static void kern() {
    HintForge font = new HintForge();
    Check.raises("right 5", Check.ARGUMENT, () -> font.kern(5, 0, 0));
    Check.raises("left -1", Check.ARGUMENT, () -> font.kern(0, -1, 0));
    Check.raises("units 1001", Check.ARGUMENT, () -> font.kern(0, 0, 1001));
    Check.raises("units -1001", Check.ARGUMENT, () -> font.kern(0, 0, -1001));
    Check.same("0 at first", font.kern(1, 2, -1000), 0);
    Check.same("the other pair", font.kern(2, 1, 1000), 0);
    Check.same("before", font.kern(1, 2, 5), -1000);
    Check.same("before there", font.kern(2, 1, 5), 1000);
  }

  private static void type() {
    HintForge font = new HintForge();
    Check.raises("no glyph", Check.INDEX, () -> font.type(0));
    font.addGlyph(100);
    for (int i = 1; i <= 20; i++) {
      Check.same("typed", font.type(0), i);
    }
    Check.raises("21st", Check.STATE, () -> font.type(0));
    Check.raises("21st of no glyph", Check.INDEX, () -> font.type(1));
    Check.same("cleared", font.clearText(), 20);
    Check.same("cleared again", font.clearText(), 0);
    Check.same("typed anew", font.type(0), 1);
  }

  private static void width() {
    HintForge font = Fonts.atSize25();
    font.addGlyph(60);
    font.addGlyph(200);
    font.setClass(0, 1, 2);
    font.setClass(1, 3, 4);
    font.kern(2, 3, -11);
    font.kern(4, 1, 50);
    font.kern(3, 2, 1000);
    Check.same("empty", font.width(), 0);
    font.type(0);
    Check.same("one", font.width(), 128);
    font.type(1);
    // -17.6 64ths are -18.
    Check.same("two", font.width(), 128 - 18 + 320);
    font.type(0);
    Check.same("three", font.width(), 128 - 18 + 320 + 80 + 128);
    font.type(0);
    Check.same("no kerning of 2 and 1", font.width(), 128 - 18 + 320 + 80 + 128 + 128);
    Fonts.program(font, 0, "p1 H p64 D");
    Check.same("hinted", font.width(), 192 - 18 + 320 + 80 + 192 + 192);
    font.setSize(12);
    Fonts.program(font, 0, "H");
    // 46 becomes 64, 154 becomes 128; -8.448 and 38.4.
    Check.same("at size 12", font.width(), 64 - 8 + 128 + 38 + 64 + 64);
  }

  private static void meanAdvance() {
    HintForge font = Fonts.atSize25();
    Check.raises("empty", Check.ARITHMETIC, () -> font.meanAdvance());
    font.addGlyph(60);
    font.addGlyph(200);
    font.kern(0, 0, 1000);
    font.type(0);
    font.type(0);
    font.type(1);
    Check.same("mean", font.meanAdvance(), 576.0 / 3.0);
    font.type(0);
    font.type(0);
    font.type(0);
    Check.same("no whole number", font.meanAdvance(), 960.0 / 6.0);
    font.type(1);
    Check.same("1280 / 7", font.meanAdvance(), 1280.0 / 7.0);
  }

  private static void tooManyPoints() {
    HintForge font = new HintForge();
    font.addGlyph(100);
    font.addGlyph(100);
    for (int i = 0; i < 40; i++) {
      font.addPoint(0, i, i, true);
    }
    font.type(0);
    font.type(1);
    Check.same("fits", font.width(), 128);
    font.addPart(1, 0, 0, 0, 64);
    font.addPart(1, 0, 0, 0, 64);
    Check.raises("width", Check.UNSUPPORTED, () -> font.width());
    Check.raises("mean", Check.UNSUPPORTED, () -> font.meanAdvance());
    font.clearText();
    Check.same("empty again", font.width(), 0);
    Check.raises("mean of none", Check.ARITHMETIC, () -> font.meanAdvance());
  }
}
