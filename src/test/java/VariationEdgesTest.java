/**
 * Weights at, nearer than and beyond a peak, spreading at and between its reference numbers, and
 * the roundings of variations, parts and sizes below 0 and at their halves.
 */
public final class VariationEdgesTest {
  private VariationEdgesTest() {
  }

  public static void main(String[] args) {
    weightsOfOneAxis();
    weightsOfBothAxes();
    halvesOfWeights();
    regionsAddUp();
    spreadingInContours();
    spreadingAlongEachWay();
    spreadingIsFromWhereItWas();
    deltasToldAgain();
    advances();
    partsVary();
    halvesOfParts();
    sizes();
    Check.end("VariationEdgesTest");
  }

  /** At size 32 units differ by 2.048 64ths: each number of 64ths is of one number of units. */
  private static int units(int scaled) {
    int units = Math.floorDiv(scaled * 1000, 2048) - 2;
    while (Math.floorDiv(units * 32 * 128 + 1000, 2000) < scaled) {
      units++;
    }
    return units;
  }

  private static String unitsX(HintForge font, int glyph) {
    font.setSize(32);
    StringBuilder all = new StringBuilder();
    for (int i = 0; i < font.points(glyph); i++) {
      all.append(i == 0 ? "" : " ").append(units(font.pointX(glyph, i, false)));
    }
    return all.toString();
  }

  private static String unitsY(HintForge font, int glyph) {
    font.setSize(32);
    StringBuilder all = new StringBuilder();
    for (int i = 0; i < font.points(glyph); i++) {
      all.append(i == 0 ? "" : " ").append(units(font.pointY(glyph, i, false)));
    }
    return all.toString();
  }

  private static int weighted(int[] peaks, int[] values, int delta) {
    HintForge font = new HintForge();
    Fonts.glyph(font, 0, 0, 0);
    font.addRegion(0, peaks[0], peaks[1]);
    font.setDelta(0, 0, 0, delta, 0);
    font.setAxis(0, values[0]);
    font.setAxis(1, values[1]);
    font.setSize(32);
    return units(font.pointX(0, 0, false));
  }

  /** The weight in thousandths of a peak and a value; the other axis is at its end, with peak 0. */
  private static void weight(int peak, int value, int due) {
    for (int other : new int[] {-100, 0, 100}) {
      int first = weighted(new int[] {peak, 0}, new int[] {value, other}, 1000);
      Check.same("peak " + peak + ", value " + value + " of axis 0", first, due);
      int second = weighted(new int[] {0, peak}, new int[] {other, value}, 1000);
      Check.same("peak " + peak + ", value " + value + " of axis 1", second, due);
    }
  }

  private static void weightsOfOneAxis() {
    for (int sign = -1; sign <= 1; sign += 2) {
      weight(sign * 50, sign * 50, 1000);
      weight(sign * 50, sign * 49, 980);
      weight(sign * 50, sign * 51, 1000);
      weight(sign * 50, sign * 100, 1000);
      weight(sign * 50, sign, 20);
      weight(sign * 50, 0, 0);
      weight(sign * 50, -sign, 0);
      weight(sign * 50, -sign * 50, 0);
      weight(sign * 50, -sign * 100, 0);
      weight(sign, sign, 1000);
      weight(sign, sign * 2, 1000);
      weight(sign, 0, 0);
      weight(sign, -sign, 0);
      weight(sign * 100, sign * 100, 1000);
      weight(sign * 100, sign * 99, 990);
      weight(sign * 100, sign, 10);
      weight(sign * 100, -sign, 0);
    }
  }

  private static void weightsOfBothAxes() {
    int[] peaks = {50, -80};
    Check.same("both at the peak", weighted(peaks, new int[] {50, -80}, 1000), 1000);
    Check.same("both beyond", weighted(peaks, new int[] {100, -100}, 1000), 1000);
    Check.same("a half by a half", weighted(peaks, new int[] {25, -40}, 1000), 250);
    Check.same("a half by 1", weighted(peaks, new int[] {25, -90}, 1000), 500);
    Check.same("1 by a quarter", weighted(peaks, new int[] {60, -20}, 1000), 250);
    Check.same("1 by 0", weighted(peaks, new int[] {60, 0}, 1000), 0);
    Check.same("0 by 1", weighted(peaks, new int[] {0, -80}, 1000), 0);
    Check.same("1 by the other sign", weighted(peaks, new int[] {60, 80}, 1000), 0);
    Check.same("the other sign by 1", weighted(peaks, new int[] {-60, -80}, 1000), 0);
    Check.same("the other signs of both", weighted(peaks, new int[] {-60, 80}, 1000), 0);
    Check.same("below 0 in both", weighted(new int[] {-50, -80}, new int[] {-25, -40}, 1000), 250);
  }

  private static void halvesOfWeights() {
    int[] half = {2, 0};
    int[] one = {1, 0};
    Check.same("a half", weighted(half, one, 1), 1);
    Check.same("a half below 0", weighted(half, one, -1), 0);
    Check.same("1.5", weighted(half, one, 3), 2);
    Check.same("-1.5", weighted(half, one, -3), -1);
    Check.same("499.5", weighted(half, one, 999), 500);
    Check.same("-499.5", weighted(half, one, -999), -499);
    Check.same("a third", weighted(new int[] {3, 0}, one, 1), 0);
    Check.same("two thirds", weighted(new int[] {3, 0}, one, 2), 1);
    Check.same("less a third", weighted(new int[] {3, 0}, one, -1), 0);
    Check.same("less two thirds", weighted(new int[] {3, 0}, one, -2), -1);
    // 49 / 100 * 99 / 100 is 0.4851, exactly 485.1 of 1000; 0.49 * 0.5 of 2 is 0.49.
    Check.same("exact", weighted(new int[] {100, 100}, new int[] {49, 99}, 1000), 485);
    Check.same("just less than a half", weighted(new int[] {99, 98}, new int[] {49, 98}, 1), 0);
    Check.same("a half of two", weighted(new int[] {98, 97}, new int[] {49, 97}, 1), 1);
    Check.same("a half of both", weighted(new int[] {-100, 100}, new int[] {-50, 50}, 2), 1);
  }

  private static void regionsAddUp() {
    HintForge font = new HintForge();
    Fonts.glyph(font, 100, 0, 0, 10, 20);
    font.addRegion(0, 100, 0);
    font.addRegion(0, 0, 100);
    font.addRegion(0, -100, 0);
    for (int region = 0; region < 3; region++) {
      font.setDelta(0, region, 0, 1, -1);
      font.setDelta(0, region, -1, 1, 0);
    }
    font.setAxis(0, 50);
    font.setAxis(1, 50);
    Check.same("each half is rounded", unitsX(font, 0) + ", " + unitsY(font, 0), "2 12 0 102, 0 20 0 0");
    font.setAxis(0, -50);
    Check.same("two others", unitsX(font, 0) + ", " + unitsY(font, 0), "2 12 0 102, 0 20 0 0");
    font.setAxis(1, 0);
    Check.same("one alone", unitsX(font, 0), "1 11 0 101");
    font.setAxis(0, -100);
    font.setAxis(1, 100);
    Check.same("whole ones", unitsX(font, 0) + ", " + unitsY(font, 0), "2 12 0 102, -2 18 0 0");
    font.setAxis(0, 0);
    font.setAxis(1, 0);
    Check.same("none", unitsX(font, 0) + ", " + unitsY(font, 0), "0 10 0 100, 0 20 0 0");
  }

  private static HintForge varied(int... at) {
    HintForge font = new HintForge();
    Fonts.glyph(font, 0, at);
    font.addRegion(0, 100, 0);
    font.setAxis(0, 100);
    return font;
  }

  private static void spreadingInContours() {
    HintForge font = varied(0, 0, 100, 0, 50, 0, 25, 0);
    Fonts.contour(font, 0, 500, 0);
    font.addPoint(0, 600, 0, true);
    font.addPoint(0, 700, 0, true);
    Check.same("no delta", unitsX(font, 0), "0 100 50 25 500 600 700 0 0");
    font.setDelta(0, 0, 3, 7, 0);
    Check.same("the only one of four", unitsX(font, 0), "7 107 57 32 500 600 700 0 0");
    font.setDelta(0, 0, 1, 11, 0);
    // 0 and 50 go by the points 3 and 1: 0 is below 25; 50 gets 7 + floor(4 * 25 / 75 + 1/2).
    Check.same("between the first and the last one", unitsX(font, 0), "7 111 58 32 500 600 700 0 0");
    font.setDelta(0, 0, 4, -5, 0);
    Check.same("a contour of one", unitsX(font, 0), "7 111 58 32 495 600 700 0 0");
    font.setDelta(0, 0, 6, 20, 0);
    Check.same("a contour that is not ended", unitsX(font, 0), "7 111 58 32 495 620 720 0 0");
    font.addPoint(0, 650, 0, true);
    Check.same("one more point in it", unitsX(font, 0), "7 111 58 32 495 620 720 670 0 0");
    font.setDelta(0, 0, 5, 0, 0);
    Check.same("a delta of 0 is one", unitsX(font, 0), "7 111 58 32 495 600 720 660 0 0");
    font.setDelta(0, 0, 0, 0, 0);
    font.setDelta(0, 0, 2, 0, 0);
    Check.same("all of a contour", unitsX(font, 0), "0 111 50 32 495 600 720 660 0 0");
  }

  /** x of a point at v between one at 0 and one at 100 that move by p and q, and back again. */
  private static void spread(int v, int p, int q, int due) {
    HintForge there = varied(0, 0, v, 0, 100, 0);
    there.setDelta(0, 0, 0, p, 0);
    there.setDelta(0, 0, 2, q, 0);
    there.setSize(32);
    Check.same("at " + v + " by " + p + " and " + q, units(there.pointX(0, 1, false)) - v, due);
    HintForge back = varied(0, 100, 0, v, 0, 0);
    back.setDelta(0, 0, 0, 0, q);
    back.setDelta(0, 0, 2, 0, p);
    back.setSize(32);
    Check.same("in y at " + v + " by " + q + " and " + p, units(back.pointY(0, 1, false)) - v, due);
  }

  private static void spreadingAlongEachWay() {
    spread(-1, 40, 80, 40);
    spread(0, 40, 80, 40);
    spread(1, 40, 80, 40);
    spread(2, 40, 80, 41);
    spread(99, 40, 80, 80);
    spread(98, 40, 80, 79);
    spread(100, 40, 80, 80);
    spread(101, 40, 80, 80);
    spread(2000, 40, 80, 80);
    spread(-2000, 40, 80, 40);
    spread(1, 0, 1000, 10);
    spread(99, 0, 1000, 990);
    spread(50, 0, 1, 1);
    spread(50, 1, 0, 1);
    spread(50, 0, -1, 0);
    spread(50, -1, 0, 0);
    spread(50, -1, -2, -1);
    spread(49, 0, 1, 0);
    spread(51, 0, -1, -1);
    spread(50, 1000, -1000, 0);
    spread(25, 1000, -1000, 500);
    spread(30, 5, 5, 5);
    HintForge font = varied(30, 0, 50, 0, 30, 0);
    font.setDelta(0, 0, 0, 4, 0);
    font.setDelta(0, 0, 2, 5, 0);
    Check.same("equal ones with other deltas", unitsX(font, 0), "34 50 35 0 0");
    font.setDelta(0, 0, 2, 4, 0);
    Check.same("equal ones with equal deltas", unitsX(font, 0), "34 54 34 0 0");
    font.movePoint(0, 1, 30, 0);
    Check.same("and at them", unitsX(font, 0), "34 34 34 0 0");
    font.setDelta(0, 0, 2, 5, 0);
    Check.same("at them with other deltas", unitsX(font, 0), "34 30 35 0 0");
    font.setDelta(0, 0, 2, 4, 9);
    Check.same("x and y apart", unitsX(font, 0) + ", " + unitsY(font, 0), "34 34 34 0 0, 0 0 9 0 0");
  }

  /** The second region spreads between where points are told, not where the first one moved them. */
  private static void spreadingIsFromWhereItWas() {
    HintForge font = varied(0, 0, 50, 0, 100, 0);
    font.addRegion(0, 0, 100);
    font.setAxis(1, 100);
    font.setDelta(0, 0, 1, 40, 0);
    font.setDelta(0, 1, 0, 0, 0);
    font.setDelta(0, 1, 2, 100, 0);
    Check.same("40, and 0, 50 and 100", unitsX(font, 0), "40 140 240 0 0");
  }

  private static void deltasToldAgain() {
    HintForge font = varied(0, 0, 50, 0);
    Check.same("the first one", font.setDelta(0, 0, 0, 5, 6), 1);
    Check.same("again", font.setDelta(0, 0, 0, 7, 8), 1);
    Check.same("the last one counts", unitsX(font, 0) + ", " + unitsY(font, 0), "7 57 0 0, 8 8 0 0");
    Check.same("the advance", font.setDelta(0, 0, -1, 30, 0), 1);
    Check.same("the advance again", font.setDelta(0, 0, -1, 20, 0), 1);
    Check.same("its last one counts", unitsX(font, 0), "7 57 0 20");
    Check.same("the other point", font.setDelta(0, 0, 1, 0, 0), 2);
    font.movePoint(0, 0, 1, 1);
    Check.same("moved with it", unitsX(font, 0), "8 50 0 20");
    font.addRegion(0, 0, 1);
    Check.same("another region counts apart", font.setDelta(0, 1, 1, 0, 0), 1);
  }

  private static void advances() {
    HintForge font = varied(0, 0);
    font.addGlyph(2000);
    font.addRegion(1, 2, 0);
    font.setDelta(0, 0, -1, -1000, 0);
    font.setDelta(1, 0, -1, 1000, 0);
    Check.same("below 0", unitsX(font, 0), "0 0 -1000");
    Check.same("the farthest one", unitsX(font, 1), "0 3000");
    Check.same("in 64ths", font.advance(1, false), 6144);
    Check.same("below 0 in 64ths", font.advance(0, false), -2048);
    Check.same("below 0 on the grid", font.advance(0, true), -2048);
    font.setAxis(0, 1);
    font.setDelta(1, 0, -1, -1, 0);
    Check.same("less a half", unitsX(font, 1), "0 2000");
    font.setDelta(1, 0, -1, 1, 0);
    Check.same("and a half", unitsX(font, 1), "0 2001");
    HintForge part = varied(0, 0);
    part.setDelta(0, 0, -1, 100, 0);
    part.addGlyph(300);
    part.addPart(1, 0, 0, 0, 64);
    Check.same("a part's advance does not count", unitsX(part, 1), "0 0 300");
  }

  private static void partsVary() {
    HintForge font = varied(10, 10, 20, 20);
    font.setDelta(0, 0, 1, 4, -4);
    Fonts.glyph(font, 50, 1, 1);
    font.addRegion(1, 100, 0);
    font.setDelta(1, 0, 0, 100, 100);
    font.addPart(1, 0, 0, 0, 64);
    Check.same("each by its own region", unitsX(font, 1) + ", " + unitsY(font, 1), "101 14 24 0 50, 101 6 16 0 0");
    font.addGlyph(0);
    font.addPart(2, 1, 1000, -1000, 32);
    // Halves: 50.5, 7, 12 and 50.5, 3, 8.
    Check.same("then scaled and moved", unitsX(font, 2) + ", " + unitsY(font, 2),
        "1051 1007 1012 0 0, -949 -997 -992 0 0");
  }

  private static void halvesOfParts() {
    HintForge font = new HintForge();
    Fonts.glyph(font, 0, 1, -1, 3, -3, 5, -5, 2, -2);
    font.addGlyph(0);
    font.addPart(1, 0, 0, 0, 32);
    Check.same("halves", unitsX(font, 1), "1 2 3 1 0 0");
    Check.same("halves below 0", unitsY(font, 1), "0 -1 -2 -1 0 0");
    font.addGlyph(0);
    font.addPart(2, 0, 10, 10, 32);
    Check.same("moved after it", unitsX(font, 2) + ", " + unitsY(font, 2), "11 12 13 11 0 0, 10 9 8 9 0 0");
    font.addGlyph(0);
    font.addPart(3, 1, 0, 0, 32);
    Check.same("rounded each time", unitsX(font, 3) + ", " + unitsY(font, 3), "1 1 2 1 0 0, 0 0 -1 0 0 0");
    font.addGlyph(0);
    font.addPart(4, 0, 0, 0, 1);
    Check.same("64ths", unitsX(font, 4), "0 0 0 0 0 0");
    font.movePoint(0, 0, 32, -32);
    font.movePoint(0, 1, 31, -31);
    font.movePoint(0, 2, 33, -33);
    font.movePoint(0, 3, 2000, -2000);
    Check.same("64ths at a half", unitsX(font, 4) + ", " + unitsY(font, 4), "1 0 1 31 0 0, 0 0 -1 -31 0 0");
    font.addGlyph(0);
    font.addPart(5, 0, 0, 0, 127);
    // 63.5, 61.515, 65.484 and 3968.75.
    Check.same("127 64ths", unitsX(font, 5) + ", " + unitsY(font, 5), "64 62 65 3969 0 0, -63 -62 -65 -3969 0 0");
  }

  private static void sizes() {
    HintForge font = new HintForge();
    Fonts.glyph(font, 2000, 1, -1, 2, -2, 2000, -2000, 999, -999);
    String[] due = {
      "4: 0 1 512 256 0 512, 0 -1 -512 -256 0 0",
      "12: 1 2 1536 767 0 1536, -1 -2 -1536 -767 0 0",
      "31: 2 4 3968 1982 0 3968, -2 -4 -3968 -1982 0 0",
      "32: 2 4 4096 2046 0 4096, -2 -4 -4096 -2046 0 0"
    };
    for (String each : due) {
      int size = Integer.parseInt(each.substring(0, each.indexOf(':')));
      font.setSize(size);
      String got = size + ": " + Fonts.xs(font, 0, false) + ", " + Fonts.ys(font, 0, false);
      Check.same("size " + size, got, each);
    }
  }
}
