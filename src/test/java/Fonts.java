/** Makes fonts for the tests. At size 25 a pixel is 40 units, and 5 units are 8 64ths. */
final class Fonts {
  private Fonts() {
  }

  static HintForge atSize25() {
    HintForge font = new HintForge();
    font.setSize(25);
    return font;
  }

  /** A glyph with one contour of points on the curve: x, y, x, y and so on. */
  static int glyph(HintForge font, int advance, int... at) {
    int glyph = font.addGlyph(advance);
    contour(font, glyph, at);
    return glyph;
  }

  static void contour(HintForge font, int glyph, int... at) {
    for (int i = 0; i < at.length; i += 2) {
      font.addPoint(glyph, at[i], at[i + 1], true);
    }
    if (at.length > 0) {
      font.endContour(glyph);
    }
  }

  static int box(HintForge font, int left, int bottom, int right, int top) {
    return glyph(font, 400, left, bottom, left, top, right, top, right, bottom);
  }

  /** Tokens as "p5" or "+", in their order, as the program of a glyph. */
  static void program(HintForge font, int glyph, String tokens) {
    font.clearProgram(glyph);
    for (String token : tokens.trim().split(" +")) {
      font.addInstruction(glyph, token.charAt(0), operand(token));
    }
  }

  static int function(HintForge font, String tokens) {
    int function = font.addFunction();
    for (String token : tokens.trim().split(" +")) {
      if (!token.isEmpty()) {
        font.extendFunction(function, token.charAt(0), operand(token));
      }
    }
    return function;
  }

  private static int operand(String token) {
    return token.length() == 1 ? 0 : Integer.parseInt(token.substring(1));
  }

  static String x(HintForge font, int glyph) {
    return xs(font, glyph, true);
  }

  static String xs(HintForge font, int glyph, boolean isHinted) {
    StringBuilder all = new StringBuilder();
    for (int i = 0; i < font.points(glyph); i++) {
      all.append(i == 0 ? "" : " ").append(font.pointX(glyph, i, isHinted));
    }
    return all.toString();
  }

  static String y(HintForge font, int glyph) {
    return ys(font, glyph, true);
  }

  static String ys(HintForge font, int glyph, boolean isHinted) {
    StringBuilder all = new StringBuilder();
    for (int i = 0; i < font.points(glyph); i++) {
      all.append(i == 0 ? "" : " ").append(font.pointY(glyph, i, isHinted));
    }
    return all.toString();
  }
}
