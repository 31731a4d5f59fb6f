import java.util.Arrays;
import java.util.NoSuchElementException;

/**
 * A font engine: outlines, variations, a machine that moves points, filling, metrics, kerning,
 * colours, subsets and a cache of drawn glyphs.
 */
public final class HintForge {

  private static final int MOST_GLYPHS = 12;
  private static final int MOST_OWN_POINTS = 40;
  private static final int MOST_POINTS = 80;
  private static final int MOST_PARTS = 3;
  private static final int MOST_REGIONS = 3;
  private static final int MOST_INSTRUCTIONS = 60;
  private static final int MOST_FUNCTIONS = 4;
  private static final int MOST_IN_FUNCTION = 30;
  private static final int MOST_NUMBERS = 16;
  private static final int MOST_LAYERS = 4;
  private static final int MOST_TYPED = 20;
  private static final int CLASSES = 5;
  private static final int SIDE = 48;
  private static final int FARTHEST_UNIT = 2000;
  private static final int FARTHEST_DELTA = 1000;
  private static final int FARTHEST_KERNING = 1000;
  private static final int FARTHEST_ON_AXIS = 100;
  private static final int GREATEST_SCALE = 128;
  private static final int ADVANCE_POINT = -1;
  private static final char NO_FAULT = '-';
  private static final String NUMBER_KINDS = "pdxo+-*/<=~wvsqH";
  private static final String POINT_KINDS = "SmirklbIDG";
  private static final String FLOW_KINDS = "MFZRjcCe";
  private static final int[] VECTOR_X = {16384, 0, 11585, 11585};
  private static final int[] VECTOR_Y = {0, 16384, 11585, -11585};

  private final Font font = new Font();
  private final Font copy = new Font();
  private final Machine machine = new Machine();
  private final Outline outline = machine.outline;
  private final Canvas canvas = new Canvas();
  private final Cache cache = new Cache();
  private final Archive archive = new Archive();
  private final long[] compared = new long[SIDE];
  private final int[] kernings = new int[CLASSES * CLASSES];
  private final int[] text = new int[MOST_TYPED];
  private final int[] axes = new int[2];
  private int textLength = 0;
  private int size = 12;
  private int rule = 0;
  private boolean isHinting = true;

  public HintForge() {
  }

  public int addGlyph(int advance) throws IllegalArgumentException, IllegalStateException {
    requireWithin(advance, 0, FARTHEST_UNIT);
    if (font.glyphCount >= MOST_GLYPHS) {
      throw new IllegalStateException("there are 12 glyphs");
    }
    int number = font.glyphCount;
    font.glyphs[number].advanceUnits = advance;
    font.glyphCount = number + 1;
    return number;
  }

  public int addPoint(int glyph, int x, int y, boolean isOn)
      throws IndexOutOfBoundsException, IllegalArgumentException, IllegalStateException {
    Glyph changed = requireGlyph(glyph);
    requireWithin(x, -FARTHEST_UNIT, FARTHEST_UNIT);
    requireWithin(y, -FARTHEST_UNIT, FARTHEST_UNIT);
    if (changed.pointCount >= MOST_OWN_POINTS) {
      throw new IllegalStateException("the glyph has 40 own points");
    }
    cache.empty();
    return changed.append(x, y, isOn);
  }

  public int endContour(int glyph) throws IndexOutOfBoundsException, IllegalStateException {
    Glyph changed = requireGlyph(glyph);
    if (changed.isEnded) {
      throw new IllegalStateException("there is no contour to end");
    }
    cache.empty();
    changed.isEnded = true;
    return changed.contourCount;
  }

  public int movePoint(int glyph, int point, int x, int y)
      throws IndexOutOfBoundsException, IllegalArgumentException {
    Glyph changed = requireGlyph(glyph);
    requireIndex(point, changed.pointCount);
    requireWithin(x, -FARTHEST_UNIT, FARTHEST_UNIT);
    requireWithin(y, -FARTHEST_UNIT, FARTHEST_UNIT);
    cache.empty();
    int before = changed.x[point];
    changed.x[point] = x;
    changed.y[point] = y;
    return before;
  }

  public int addPart(int glyph, int other, int dx, int dy, int scale)
      throws IndexOutOfBoundsException, IllegalArgumentException, UnsupportedOperationException,
          IllegalStateException {
    Glyph changed = requireGlyph(glyph);
    requireIndex(other, font.glyphCount);
    requireWithin(dx, -FARTHEST_UNIT, FARTHEST_UNIT);
    requireWithin(dy, -FARTHEST_UNIT, FARTHEST_UNIT);
    requireWithin(scale, 1, GREATEST_SCALE);
    if (font.isMadeOf(other, glyph)) {
      throw new UnsupportedOperationException("the other glyph has this one as a part");
    }
    if (changed.partCount >= MOST_PARTS) {
      throw new IllegalStateException("the glyph has 3 parts");
    }
    cache.empty();
    changed.parts[changed.partCount].set(other, dx, dy, scale);
    changed.partCount++;
    return changed.partCount;
  }

  public int points(int glyph) throws IndexOutOfBoundsException {
    requireGlyph(glyph);
    return font.countAll(glyph);
  }

  public int setAxis(int axis, int value)
      throws IndexOutOfBoundsException, IllegalArgumentException {
    requireIndex(axis, axes.length);
    requireWithin(value, -FARTHEST_ON_AXIS, FARTHEST_ON_AXIS);
    int before = axes[axis];
    axes[axis] = value;
    return before;
  }

  public int addRegion(int glyph, int first, int second)
      throws IndexOutOfBoundsException, IllegalArgumentException, IllegalStateException {
    Glyph changed = requireGlyph(glyph);
    requireWithin(first, -FARTHEST_ON_AXIS, FARTHEST_ON_AXIS);
    requireWithin(second, -FARTHEST_ON_AXIS, FARTHEST_ON_AXIS);
    if (first == 0 && second == 0) {
      throw new IllegalArgumentException("both peaks are 0");
    }
    if (changed.regionCount >= MOST_REGIONS) {
      throw new IllegalStateException("the glyph has 3 regions");
    }
    cache.empty();
    int number = changed.regionCount;
    changed.regions[number].restart(first, second);
    changed.regionCount = number + 1;
    return number;
  }

  public int setDelta(int glyph, int region, int point, int dx, int dy)
      throws IndexOutOfBoundsException, IllegalArgumentException {
    Glyph changed = requireGlyph(glyph);
    requireIndex(region, changed.regionCount);
    // The advance has one delta: dy is of no meaning for it, whatever it is.
    boolean isOfPoint = point != ADVANCE_POINT;
    if (isOfPoint) {
      requireIndex(point, changed.pointCount);
    }
    requireWithin(dx, -FARTHEST_DELTA, FARTHEST_DELTA);
    if (isOfPoint) {
      requireWithin(dy, -FARTHEST_DELTA, FARTHEST_DELTA);
    }
    cache.empty();
    changed.regions[region].tell(point, dx, dy);
    return changed.regions[region].toldCount;
  }

  public int setSize(int size) throws IllegalArgumentException {
    requireWithin(size, 4, 32);
    int before = this.size;
    this.size = size;
    return before;
  }

  public int addInstruction(int glyph, char kind, int n)
      throws IndexOutOfBoundsException, IllegalArgumentException, IllegalStateException {
    Glyph changed = requireGlyph(glyph);
    return extend(changed.program, kind, n);
  }

  public int clearProgram(int glyph) throws IndexOutOfBoundsException {
    Glyph changed = requireGlyph(glyph);
    cache.empty();
    int before = changed.program.count;
    changed.program.count = 0;
    return before;
  }

  public int addFunction() throws IllegalStateException {
    if (font.functionCount >= MOST_FUNCTIONS) {
      throw new IllegalStateException("there are 4 functions");
    }
    cache.empty();
    font.functionCount++;
    return font.functionCount - 1;
  }

  public int extendFunction(int function, char kind, int n)
      throws IndexOutOfBoundsException, IllegalArgumentException, IllegalStateException {
    requireIndex(function, font.functionCount);
    return extend(font.functions[function], kind, n);
  }

  public int addNumber(int number) throws IllegalArgumentException, IllegalStateException {
    requireWithin(number, -FARTHEST_UNIT, FARTHEST_UNIT);
    if (font.numberCount >= MOST_NUMBERS) {
      throw new IllegalStateException("the table has 16 numbers");
    }
    cache.empty();
    int place = font.numberCount;
    font.numbers[place] = number;
    font.numberCount = place + 1;
    return place;
  }

  public boolean setHinting(boolean is) {
    boolean before = isHinting;
    isHinting = is;
    return before;
  }

  public int setRule(int rule) throws IllegalArgumentException {
    requireWithin(rule, 0, 2);
    int before = this.rule;
    this.rule = rule;
    return before;
  }

  public int pointX(int glyph, int point, boolean isHinted)
      throws IndexOutOfBoundsException, UnsupportedOperationException {
    requirePoint(glyph, point);
    shape(font, glyph, isHinted);
    return outline.zone.nowX[point];
  }

  public int pointY(int glyph, int point, boolean isHinted)
      throws IndexOutOfBoundsException, UnsupportedOperationException {
    requirePoint(glyph, point);
    shape(font, glyph, isHinted);
    return outline.zone.nowY[point];
  }

  public char fault(int glyph) throws IndexOutOfBoundsException, UnsupportedOperationException {
    requireDrawable(glyph);
    runProgram(glyph);
    return machine.failure;
  }

  public boolean isExact(int glyph)
      throws IndexOutOfBoundsException, UnsupportedOperationException {
    requireDrawable(glyph);
    runProgram(glyph);
    return machine.isBeyondInts;
  }

  public int steps(int glyph) throws IndexOutOfBoundsException, UnsupportedOperationException {
    requireDrawable(glyph);
    runProgram(glyph);
    return machine.stepCount;
  }

  public boolean pixel(int glyph, int x, int y)
      throws IndexOutOfBoundsException, UnsupportedOperationException {
    requireGlyph(glyph);
    requireIndex(x, SIDE);
    requireIndex(y, SIDE);
    requireDrawable(glyph);
    return isSet(look(glyph), x, y);
  }

  public int pixels(int glyph) throws IndexOutOfBoundsException, UnsupportedOperationException {
    requireDrawable(glyph);
    return countSet(look(glyph));
  }

  public int rowOf(int glyph, int y)
      throws IndexOutOfBoundsException, UnsupportedOperationException {
    requireGlyph(glyph);
    requireIndex(y, SIDE);
    requireDrawable(glyph);
    long[] rows = look(glyph);
    int first = 0;
    while (first < SIDE && !isSet(rows, first, y)) {
      first++;
    }
    return first == SIDE ? 0 : 100 * Long.bitCount(rows[y]) + first;
  }

  public boolean isWound(int glyph)
      throws IndexOutOfBoundsException, UnsupportedOperationException {
    requireDrawable(glyph);
    shape(font, glyph, true);
    canvas.draw(outline, 0);
    return canvas.isFilledByWinding();
  }

  public int advance(int glyph, boolean isHinted)
      throws IndexOutOfBoundsException, UnsupportedOperationException {
    requireDrawable(glyph);
    shape(font, glyph, isHinted);
    return isHinted ? outline.gridBreadth() : outline.breadth();
  }

  public boolean setClass(int glyph, int left, int right)
      throws IndexOutOfBoundsException, IllegalArgumentException {
    Glyph changed = requireGlyph(glyph);
    requireWithin(left, 0, CLASSES - 1);
    requireWithin(right, 0, CLASSES - 1);
    boolean isOther = changed.leftClass != left || changed.rightClass != right;
    changed.leftClass = left;
    changed.rightClass = right;
    return isOther;
  }

  public int kern(int right, int left, int units) throws IllegalArgumentException {
    requireWithin(right, 0, CLASSES - 1);
    requireWithin(left, 0, CLASSES - 1);
    requireWithin(units, -FARTHEST_KERNING, FARTHEST_KERNING);
    int before = kernings[right * CLASSES + left];
    kernings[right * CLASSES + left] = units;
    return before;
  }

  public int type(int glyph) throws IndexOutOfBoundsException, IllegalStateException {
    requireGlyph(glyph);
    if (textLength >= MOST_TYPED) {
      throw new IllegalStateException("the text has 20 glyphs");
    }
    text[textLength] = glyph;
    textLength++;
    return textLength;
  }

  public int clearText() {
    int before = textLength;
    textLength = 0;
    return before;
  }

  public int width() throws UnsupportedOperationException {
    requireDrawableText();
    int sum = sumOfAdvances();
    for (int i = 1; i < textLength; i++) {
      int right = font.glyphs[text[i - 1]].rightClass;
      int left = font.glyphs[text[i]].leftClass;
      sum += scaled(kernings[right * CLASSES + left], size);
    }
    return sum;
  }

  public int addColour(int glyph, int other, int colour)
      throws IndexOutOfBoundsException, IllegalArgumentException, IllegalStateException {
    Glyph changed = requireGlyph(glyph);
    requireIndex(other, font.glyphCount);
    requireWithin(colour, 1, 9);
    if (changed.layerCount >= MOST_LAYERS) {
      throw new IllegalStateException("the glyph has 4 layers");
    }
    changed.layerGlyphs[changed.layerCount] = other;
    changed.layerColours[changed.layerCount] = colour;
    changed.layerCount++;
    return changed.layerCount;
  }

  public int colourAt(int glyph, int x, int y)
      throws IndexOutOfBoundsException, UnsupportedOperationException {
    Glyph seen = requireGlyph(glyph);
    requireIndex(x, SIDE);
    requireIndex(y, SIDE);
    int barred = lastBarredLayer(seen);
    if (barred >= 0 && !isCovered(seen, barred, x, y)) {
      throw new UnsupportedOperationException("a layer has more than 80 points");
    }
    for (int i = seen.layerCount - 1; i > barred; i--) {
      if (isSet(look(seen.layerGlyphs[i]), x, y)) {
        return seen.layerColours[i];
      }
    }
    return 0;
  }

  public boolean keep(int glyph, boolean is) throws IndexOutOfBoundsException {
    Glyph changed = requireGlyph(glyph);
    boolean before = changed.isKept;
    changed.isKept = is;
    return before;
  }

  public int subset() {
    return font.numberSubset();
  }

  public int numberOf(int glyph) throws IndexOutOfBoundsException, NoSuchElementException {
    return requireInSubset(glyph);
  }

  public int written() {
    archive.write(font);
    return archive.length;
  }

  public boolean isSame(int glyph)
      throws IndexOutOfBoundsException, NoSuchElementException, UnsupportedOperationException {
    int number = requireInSubset(glyph);
    requireDrawable(glyph);
    shape(font, glyph, true);
    canvas.draw(outline, rule);
    System.arraycopy(canvas.rows, 0, compared, 0, SIDE);
    archive.write(font);
    archive.read(copy);
    if (number >= copy.glyphCount || copy.countAll(number) > MOST_POINTS) {
      return false;
    }
    shape(copy, number, true);
    canvas.draw(outline, rule);
    return areAlike(canvas.rows, compared);
  }

  public int hits() {
    return cache.hitCount;
  }

  public int drawings() {
    return cache.drawCount;
  }

  public float inkShare(int glyph)
      throws IndexOutOfBoundsException, UnsupportedOperationException {
    requireDrawable(glyph);
    return (float) countSet(look(glyph)) / (float) (SIDE * SIDE);
  }

  public double meanAdvance() throws ArithmeticException, UnsupportedOperationException {
    if (textLength == 0) {
      throw new ArithmeticException("the text is empty");
    }
    requireDrawableText();
    return (double) sumOfAdvances() / (double) textLength;
  }

  private static boolean isWithin(int value, int least, int greatest) {
    return value >= least && value <= greatest;
  }

  private static void requireWithin(int value, int least, int greatest) {
    if (!isWithin(value, least, greatest)) {
      throw new IllegalArgumentException("a number is out of range");
    }
  }

  private static void requireIndex(int index, int count) {
    if (index < 0 || index >= count) {
      throw new IndexOutOfBoundsException("there is no such number");
    }
  }

  private Glyph requireGlyph(int glyph) {
    requireIndex(glyph, font.glyphCount);
    return font.glyphs[glyph];
  }

  private void requireDrawable(int glyph) {
    requireIndex(glyph, font.glyphCount);
    if (font.countAll(glyph) > MOST_POINTS) {
      throw new UnsupportedOperationException("the glyph has more than 80 points");
    }
  }

  private void requirePoint(int glyph, int point) {
    requireIndex(glyph, font.glyphCount);
    requireIndex(point, font.countAll(glyph));
    requireDrawable(glyph);
  }

  private void requireDrawableText() {
    for (int i = 0; i < textLength; i++) {
      requireDrawable(text[i]);
    }
  }

  private int requireInSubset(int glyph) {
    requireIndex(glyph, font.glyphCount);
    font.numberSubset();
    if (font.subsetNumbers[glyph] < 0) {
      throw new NoSuchElementException("the subset does not have it");
    }
    return font.subsetNumbers[glyph];
  }

  private int extend(Program program, char kind, int n) {
    if (!isInstruction(kind, n)) {
      throw new IllegalArgumentException("there is no such instruction");
    }
    if (program.count >= program.kinds.length) {
      throw new IllegalStateException("the row of instructions is full");
    }
    cache.empty();
    program.append(kind, n);
    return program.count;
  }

  private static boolean isInstruction(char kind, int n) {
    switch (kind) {
      case 'p':
        return isWithin(n, -99999, 99999);
      case 'R':
        return isWithin(n, 0, 5);
      case 'S':
        return isWithin(n, 0, 2);
      case 'j':
      case 'c':
        return isWithin(n, -60, 60);
      case 'C':
        return isWithin(n, 0, 3);
      default:
        return NUMBER_KINDS.indexOf(kind) >= 0
            || POINT_KINDS.indexOf(kind) >= 0
            || FLOW_KINDS.indexOf(kind) >= 0;
    }
  }

  /** Puts the points of a glyph into the outline, hinted ones if they are meant and hinted. */
  private void shape(Font source, int glyph, boolean isHinted) {
    outline.clear();
    source.countContourPoints();
    Outline.collect(outline, source, glyph, axes, 0);
    outline.finish(source.glyphs[glyph].variedAdvance(axes), size);
    Program program = source.glyphs[glyph].program;
    if (isHinted && isHinting && program.count > 0) {
      machine.run(source, program, size);
    }
  }

  private void runProgram(int glyph) {
    shape(font, glyph, false);
    machine.run(font, font.glyphs[glyph].program, size);
  }

  private int sumOfAdvances() {
    int sum = 0;
    for (int i = 0; i < textLength; i++) {
      shape(font, text[i], true);
      sum += outline.gridBreadth();
    }
    return sum;
  }

  /** Asks the cache for the rows of a glyph, and draws them if it does not have them. */
  private long[] look(int glyph) {
    long key = cacheKey(glyph);
    int place = cache.find(key);
    if (place >= 0) {
      cache.hitCount++;
    } else {
      shape(font, glyph, true);
      canvas.draw(outline, rule);
      place = cache.put(key, canvas.rows);
    }
    return cache.ask(place);
  }

  private long cacheKey(int glyph) {
    long key = glyph;
    key = key * 64 + size;
    key = key * 256 + axes[0] + FARTHEST_ON_AXIS;
    key = key * 256 + axes[1] + FARTHEST_ON_AXIS;
    key = key * 2 + (isHinting ? 1 : 0);
    return key * 4 + rule;
  }

  private int lastBarredLayer(Glyph seen) {
    for (int i = seen.layerCount - 1; i >= 0; i--) {
      if (font.countAll(seen.layerGlyphs[i]) > MOST_POINTS) {
        return i;
      }
    }
    return -1;
  }

  /** Draws besides the cache: a call that is going to throw must leave the cache as it was. */
  private boolean isCovered(Glyph seen, int layer, int x, int y) {
    for (int i = seen.layerCount - 1; i > layer; i--) {
      shape(font, seen.layerGlyphs[i], true);
      canvas.draw(outline, rule);
      if (isSet(canvas.rows, x, y)) {
        return true;
      }
    }
    return false;
  }

  private static boolean isSet(long[] rows, int x, int y) {
    return ((rows[y] >> x) & 1) != 0;
  }

  private static boolean areAlike(long[] rows, long[] others) {
    for (int y = 0; y < SIDE; y++) {
      if (rows[y] != others[y]) {
        return false;
      }
    }
    return true;
  }

  private static int countSet(long[] rows) {
    int sum = 0;
    for (int y = 0; y < SIDE; y++) {
      sum += Long.bitCount(rows[y]);
    }
    return sum;
  }

  private static int scaled(int units, int size) {
    return (int) Math.floorDiv((long) units * size * 128 + 1000, 2000L);
  }

  /** What a number gets by spreading between a and b, which become a + p and b + q. */
  private static long spread(long number, long a, long b, long p, long q) {
    if (a == b) {
      return p == q ? p : 0;
    }
    long low = a < b ? a : b;
    long high = a < b ? b : a;
    long atLow = a < b ? p : q;
    long atHigh = a < b ? q : p;
    if (number <= low) {
      return atLow;
    }
    if (number >= high) {
      return atHigh;
    }
    long span = high - low;
    return atLow + Math.floorDiv(2 * (atHigh - atLow) * (number - low) + span, 2 * span);
  }

  /** The nearest one that is marked, stepping from a point round its contour, or -1. */
  private static int nearest(boolean[] marks, int from, int to, int point, int step) {
    int at = point;
    for (int i = from + 1; i < to; i++) {
      at += step;
      if (at < from) {
        at = to - 1;
      } else if (at >= to) {
        at = from;
      }
      if (marks[at]) {
        return at;
      }
    }
    return -1;
  }

  /** A row of instructions, of a glyph or of a function. */
  private static final class Program {
    final char[] kinds;
    final int[] operands;
    int count = 0;

    Program(int most) {
      kinds = new char[most];
      operands = new int[most];
    }

    void append(char kind, int n) {
      if (count < kinds.length) {
        kinds[count] = kind;
        operands[count] = n;
        count++;
      }
    }
  }

  /** Another glyph inside a glyph. */
  private static final class Part {
    int other = 0;
    int dx = 0;
    int dy = 0;
    int scale = 0;

    void set(int other, int dx, int dy, int scale) {
      this.other = other;
      this.dx = dx;
      this.dy = dy;
      this.scale = scale;
    }

    int placed(int v, int move) {
      return (int) Math.floorDiv(2L * v * scale + 64, 128L) + move;
    }
  }

  /** A region of the two axes with its deltas. */
  private static final class Region {
    int first = 0;
    int second = 0;
    final boolean[] isTold = new boolean[MOST_OWN_POINTS];
    final int[] dx = new int[MOST_OWN_POINTS];
    final int[] dy = new int[MOST_OWN_POINTS];
    int toldCount = 0;
    boolean isAdvanceTold = false;
    int advanceDelta = 0;

    void restart(int first, int second) {
      this.first = first;
      this.second = second;
      for (int i = 0; i < MOST_OWN_POINTS; i++) {
        isTold[i] = false;
      }
      toldCount = 0;
      isAdvanceTold = false;
      advanceDelta = 0;
    }

    void tell(int point, int x, int y) {
      if (point == ADVANCE_POINT) {
        isAdvanceTold = true;
        advanceDelta = x;
      } else if (point >= 0 && point < MOST_OWN_POINTS) {
        toldCount += isTold[point] ? 0 : 1;
        isTold[point] = true;
        dx[point] = x;
        dy[point] = y;
      }
    }

    /** The weight is share(axes) / whole(), so that no digit of it is lost. */
    long share(int[] axes) {
      return (long) shareOf(first, axes[0]) * shareOf(second, axes[1]);
    }

    long whole() {
      return (long) wholeOf(first) * wholeOf(second);
    }

    private static int shareOf(int peak, int value) {
      if (peak == 0) {
        return 1;
      }
      if (value == 0 || (value > 0) != (peak > 0)) {
        return 0;
      }
      return Math.min(Math.abs(value), Math.abs(peak));
    }

    private static int wholeOf(int peak) {
      return peak == 0 ? 1 : Math.abs(peak);
    }

    static int weighted(long share, long whole, long delta) {
      return whole <= 0 ? 0 : (int) Math.floorDiv(2 * share * delta + whole, 2 * whole);
    }

    int advanceShift(int[] axes) {
      return weighted(share(axes), whole(), advanceDelta);
    }

    /** Adds to the own points of the glyph, which stand in the zone from base on. */
    void vary(Glyph glyph, int[] axes, Zone zone, int base) {
      long share = share(axes);
      long whole = whole();
      int from = 0;
      int to = 0;
      for (int i = 0; i < glyph.pointCount && base + i < zone.count; i++) {
        if (i == to) {
          from = i;
          to = glyph.contourEnd(i);
        }
        zone.firstX[base + i] += weighted(share, whole, deltaOf(dx, glyph.x, i, from, to));
        zone.firstY[base + i] += weighted(share, whole, deltaOf(dy, glyph.y, i, from, to));
      }
    }

    private long deltaOf(int[] deltas, int[] at, int point, int from, int to) {
      if (isTold[point]) {
        return deltas[point];
      }
      int ahead = nearest(isTold, from, to, point, -1);
      int behind = nearest(isTold, from, to, point, 1);
      if (ahead < 0 || behind < 0) {
        return 0;
      }
      if (ahead == behind) {
        return deltas[ahead];
      }
      return spread(at[point], at[ahead], at[behind], deltas[ahead], deltas[behind]);
    }
  }

  /** A glyph as it was told. */
  private static final class Glyph {
    int advanceUnits = 0;
    final int[] x = new int[MOST_OWN_POINTS];
    final int[] y = new int[MOST_OWN_POINTS];
    final boolean[] isOn = new boolean[MOST_OWN_POINTS];
    final int[] contour = new int[MOST_OWN_POINTS];
    int pointCount = 0;
    int contourCount = 0;
    boolean isEnded = true;
    final Part[] parts = new Part[MOST_PARTS];
    int partCount = 0;
    final Region[] regions = new Region[MOST_REGIONS];
    int regionCount = 0;
    final Program program = new Program(MOST_INSTRUCTIONS);
    final int[] layerGlyphs = new int[MOST_LAYERS];
    final int[] layerColours = new int[MOST_LAYERS];
    int layerCount = 0;
    int leftClass = 0;
    int rightClass = 0;
    boolean isKept = false;

    Glyph() {
      for (int i = 0; i < MOST_PARTS; i++) {
        parts[i] = new Part();
      }
      for (int i = 0; i < MOST_REGIONS; i++) {
        regions[i] = new Region();
      }
    }

    void restart(int advance) {
      advanceUnits = advance;
      pointCount = 0;
      contourCount = 0;
      isEnded = true;
      partCount = 0;
      regionCount = 0;
      program.count = 0;
      layerCount = 0;
    }

    int append(int atX, int atY, boolean isOnCurve) {
      if (isEnded) {
        isEnded = false;
        contourCount++;
      }
      int number = pointCount;
      if (number < MOST_OWN_POINTS) {
        x[number] = atX;
        y[number] = atY;
        isOn[number] = isOnCurve;
        contour[number] = contourCount - 1;
        pointCount++;
      }
      return number;
    }

    int contourEnd(int point) {
      int end = point + 1;
      while (end < pointCount && contour[end] == contour[point]) {
        end++;
      }
      return end;
    }

    int variedAdvance(int[] axes) {
      int sum = advanceUnits;
      for (int i = 0; i < regionCount; i++) {
        sum += regions[i].advanceShift(axes);
      }
      return sum;
    }
  }

  /** Glyphs, functions and the table. */
  private static final class Font {
    final Glyph[] glyphs = new Glyph[MOST_GLYPHS];
    int glyphCount = 0;
    final Program[] functions = new Program[MOST_FUNCTIONS];
    int functionCount = 0;
    final int[] numbers = new int[MOST_NUMBERS];
    int numberCount = 0;
    final int[] subsetNumbers = new int[MOST_GLYPHS];
    private final int[] totals = new int[MOST_GLYPHS];
    private final boolean[] marks = new boolean[MOST_GLYPHS];

    Font() {
      for (int i = 0; i < MOST_GLYPHS; i++) {
        glyphs[i] = new Glyph();
      }
      for (int i = 0; i < MOST_FUNCTIONS; i++) {
        functions[i] = new Program(MOST_IN_FUNCTION);
      }
    }

    int countAll(int glyph) {
      countContourPoints();
      return totals[glyph] + 2;
    }

    /** Counts in passes: going down every part anew could take 3 to the 11th steps. */
    void countContourPoints() {
      Arrays.fill(totals, 0);
      for (int pass = 0; pass < glyphCount; pass++) {
        for (int i = 0; i < glyphCount; i++) {
          Glyph glyph = glyphs[i];
          int sum = glyph.pointCount;
          for (int j = 0; j < glyph.partCount; j++) {
            sum += totals[glyph.parts[j].other];
          }
          totals[i] = sum;
        }
      }
    }

    boolean isMadeOf(int glyph, int sought) {
      for (int i = 0; i < glyphCount; i++) {
        marks[i] = i == glyph;
      }
      markReached(false);
      return marks[sought];
    }

    int numberSubset() {
      for (int i = 0; i < glyphCount; i++) {
        marks[i] = glyphs[i].isKept;
      }
      markReached(true);
      int count = 0;
      for (int i = 0; i < glyphCount; i++) {
        subsetNumbers[i] = marks[i] ? count : -1;
        count += marks[i] ? 1 : 0;
      }
      return count;
    }

    private void markReached(boolean hasLayers) {
      for (int pass = 0; pass < glyphCount; pass++) {
        for (int i = 0; i < glyphCount; i++) {
          if (marks[i]) {
            markNext(glyphs[i], hasLayers);
          }
        }
      }
    }

    private void markNext(Glyph glyph, boolean hasLayers) {
      for (int i = 0; i < glyph.partCount; i++) {
        marks[glyph.parts[i].other] = true;
      }
      for (int i = 0; hasLayers && i < glyph.layerCount; i++) {
        marks[glyph.layerGlyphs[i]] = true;
      }
    }
  }

  /** Points, where they were at first and where they are now. */
  private static final class Zone {
    final int[] firstX;
    final int[] firstY;
    final int[] nowX;
    final int[] nowY;
    final boolean[] isTouchedX;
    final boolean[] isTouchedY;
    int count = 0;

    Zone(int most) {
      firstX = new int[most];
      firstY = new int[most];
      nowX = new int[most];
      nowY = new int[most];
      isTouchedX = new boolean[most];
      isTouchedY = new boolean[most];
    }

    void append(int x, int y) {
      if (count < firstX.length) {
        firstX[count] = x;
        firstY[count] = y;
        count++;
      }
    }

    void restart() {
      for (int i = 0; i < count; i++) {
        nowX[i] = firstX[i];
        nowY[i] = firstY[i];
        isTouchedX[i] = false;
        isTouchedY[i] = false;
      }
    }
  }

  /** The points of a glyph, its parts included, varied and scaled, then its begin and its end. */
  private static final class Outline {
    final Zone zone = new Zone(MOST_POINTS);
    final boolean[] isOn = new boolean[MOST_POINTS];
    final int[] contourStarts = new int[MOST_POINTS + 1];
    int contourCount = 0;

    void clear() {
      zone.count = 0;
      contourCount = 0;
    }

    void finish(int advanceUnits, int size) {
      contourStarts[contourCount] = zone.count;
      zone.append(0, 0);
      zone.append(advanceUnits, 0);
      for (int i = 0; i < zone.count; i++) {
        zone.firstX[i] = scaled(zone.firstX[i], size);
        zone.firstY[i] = scaled(zone.firstY[i], size);
      }
      zone.restart();
    }

    int breadth() {
      return zone.count < 2 ? 0 : zone.nowX[zone.count - 1] - zone.nowX[zone.count - 2];
    }

    int gridBreadth() {
      return Math.floorDiv(breadth() + 32, 64) * 64;
    }

    /** Leaves out parts without points: without them there are few ways down to go. */
    private static void collect(Outline to, Font font, int number, int[] axes, int depth) {
      if (depth >= MOST_GLYPHS) {
        return;
      }
      Glyph glyph = font.glyphs[number];
      int base = to.zone.count;
      to.appendOwn(glyph);
      for (int i = 0; i < glyph.regionCount; i++) {
        glyph.regions[i].vary(glyph, axes, to.zone, base);
      }
      for (int i = 0; i < glyph.partCount; i++) {
        Part part = glyph.parts[i];
        if (font.totals[part.other] > 0) {
          int start = to.zone.count;
          collect(to, font, part.other, axes, depth + 1);
          to.place(part, start);
        }
      }
    }

    private void appendOwn(Glyph glyph) {
      for (int i = 0; i < glyph.pointCount && zone.count < MOST_POINTS; i++) {
        if (i == 0 || glyph.contour[i] != glyph.contour[i - 1]) {
          contourStarts[contourCount] = zone.count;
          contourCount++;
        }
        isOn[zone.count] = glyph.isOn[i];
        zone.append(glyph.x[i], glyph.y[i]);
      }
    }

    private void place(Part part, int start) {
      for (int i = start; i < zone.count; i++) {
        zone.firstX[i] = part.placed(zone.firstX[i], part.dx);
        zone.firstY[i] = part.placed(zone.firstY[i], part.dy);
      }
    }
  }

  /** Runs the program of a glyph and moves the points of its outline. */
  private static final class Machine {
    private static final int MOST_ON_STACK = 24;
    private static final int MOST_STEPS = 400;
    private static final int MOST_CALLS = 6;
    // Far above 400 instructions and as many ends of functions.
    private static final int MOST_TURNS = 2000;
    private static final int STORAGE = 8;
    private static final int STILL_POINTS = 8;
    private static final int VECTORS = 4;
    private static final int FARTHEST = 1000000;
    // A move by more than this leaves the coordinates in any case, and would leave the longs.
    private static final long FARTHEST_MOVE = 1000000000000L;

    final Outline outline = new Outline();
    private final int[] stack = new int[MOST_ON_STACK];
    private int height = 0;
    private final int[] storage = new int[STORAGE];
    private final int[] table = new int[MOST_NUMBERS];
    private int tableCount = 0;
    private final int[] references = new int[3];
    private final Zone still = new Zone(STILL_POINTS);
    private Zone zone = outline.zone;
    private int measuring = 0;
    private int moving = 0;
    private int rounding = 0;
    private Font font = null;
    private int presentSize = 0;
    private final Program[] rows = new Program[MOST_CALLS + 1];
    private final int[] places = new int[MOST_CALLS + 1];
    private int calls = 0;
    char failure = NO_FAULT;
    boolean isBeyondInts = false;
    int stepCount = 0;

    void run(Font source, Program program, int size) {
      begin(source, program, size);
      for (int turn = 0; turn < MOST_TURNS && calls >= 0 && failure == NO_FAULT; turn++) {
        Program row = rows[calls];
        int place = places[calls];
        if (row == null || place < 0 || place >= row.count) {
          comeBack();
        } else if (stepCount >= MOST_STEPS) {
          failure = 'b';
        } else {
          stepCount++;
          places[calls] = place + 1;
          char kind = row.kinds[place];
          if (NUMBER_KINDS.indexOf(kind) >= 0) {
            reckon(kind, row.operands[place]);
          } else if (POINT_KINDS.indexOf(kind) >= 0) {
            treatPoint(kind, row.operands[place]);
          } else {
            steer(kind, row.operands[place]);
          }
        }
      }
      if (failure != NO_FAULT) {
        outline.zone.restart();
      }
    }

    private void begin(Font source, Program program, int size) {
      font = source;
      presentSize = size;
      height = 0;
      Arrays.fill(storage, 0);
      tableCount = source.numberCount;
      for (int i = 0; i < tableCount; i++) {
        table[i] = scaled(source.numbers[i], size);
      }
      Arrays.fill(references, 0);
      still.count = 0;
      for (int i = 0; i < STILL_POINTS; i++) {
        still.append(0, 0);
      }
      still.restart();
      zone = outline.zone;
      measuring = 0;
      moving = 0;
      rounding = 0;
      rows[0] = program;
      places[0] = 0;
      calls = 0;
      failure = NO_FAULT;
      isBeyondInts = false;
      stepCount = 0;
    }

    private void reckon(char kind, int n) {
      switch (kind) {
        case 'p':
          push(n);
          break;
        case 'd':
          pushTwice();
          break;
        case 'x':
          exchange();
          break;
        case 'o':
          pop();
          break;
        case '~':
          push(-(long) pop());
          break;
        case 'w':
          writeTable();
          break;
        case 'v':
          push(table[popBelow(tableCount)]);
          break;
        case 's':
          store();
          break;
        case 'q':
          push(storage[popBelow(STORAGE)]);
          break;
        case 'H':
          push(presentSize);
          break;
        default:
          combine(kind);
          break;
      }
    }

    private void steer(char kind, int n) {
      switch (kind) {
        case 'M':
          measuring = popBelow(VECTORS);
          break;
        case 'F':
          moving = popBelow(VECTORS);
          break;
        case 'Z':
          zone = popBelow(2) == 0 ? still : outline.zone;
          break;
        case 'R':
          rounding = n;
          break;
        case 'j':
          jump(n);
          break;
        case 'c':
          if (pop() != 0) {
            jump(n);
          }
          break;
        case 'C':
          callFunction(n);
          break;
        default:
          comeBack();
          break;
      }
    }

    private void treatPoint(char kind, int n) {
      switch (kind) {
        case 'S':
          setReference(n);
          break;
        case 'm':
          moveRounded(popBelow(zone.count));
          break;
        case 'i':
          moveToNumber();
          break;
        case 'r':
          keepDistance(popBelow(zone.count));
          break;
        case 'k':
          follow(popBelow(zone.count));
          break;
        case 'l':
          align(popBelow(zone.count));
          break;
        case 'b':
          keepBetween(popBelow(zone.count));
          break;
        case 'I':
          spreadAll(popBelow(2));
          break;
        case 'D':
          moveAtSize();
          break;
        default:
          pushMeasured(popBelow(zone.count));
          break;
      }
    }

    private int pop() {
      if (height <= 0) {
        failure = 'u';
        return 0;
      }
      height--;
      return stack[height];
    }

    /** Pops a number that must be from 0 on and less than another one. */
    private int popBelow(int count) {
      int number = pop();
      if (failure == NO_FAULT && (number < 0 || number >= count)) {
        failure = 'r';
      }
      return failure == NO_FAULT ? number : 0;
    }

    private void push(long number) {
      if (failure != NO_FAULT) {
        return;
      }
      if (height >= MOST_ON_STACK) {
        failure = 'o';
      } else if (number != (int) number) {
        failure = 'a';
        isBeyondInts = true;
      } else {
        stack[height] = (int) number;
        height++;
      }
    }

    private void pushTwice() {
      int top = pop();
      push(top);
      push(top);
    }

    private void exchange() {
      int top = pop();
      int next = pop();
      push(top);
      push(next);
    }

    private void combine(char kind) {
      long b = pop();
      long a = pop();
      if (failure != NO_FAULT) {
        return;
      }
      switch (kind) {
        case '+':
          push(a + b);
          break;
        case '-':
          push(a - b);
          break;
        case '*':
          push((a * b + 32) >> 6);
          break;
        case '<':
          push(a < b ? 1 : 0);
          break;
        case '=':
          push(a == b ? 1 : 0);
          break;
        default:
          divide(a, b);
          break;
      }
    }

    private void divide(long a, long b) {
      if (b == 0) {
        failure = 'z';
      } else {
        push(a * 64 / b);
      }
    }

    private void writeTable() {
      int number = pop();
      int place = popBelow(tableCount);
      if (failure == NO_FAULT) {
        table[place] = number;
      }
    }

    private void store() {
      int number = pop();
      int place = popBelow(STORAGE);
      if (failure == NO_FAULT) {
        storage[place] = number;
      }
    }

    private void setReference(int reference) {
      int point = popBelow(zone.count);
      if (reference >= 0 && reference < references.length) {
        references[reference] = point;
      }
    }

    private void jump(int n) {
      Program row = rows[calls];
      int target = places[calls] - 1 + n;
      if (row == null || target < 0 || target > row.count) {
        failure = 'j';
      } else {
        places[calls] = target;
      }
    }

    private void callFunction(int function) {
      if (font == null || function < 0 || function >= font.functionCount) {
        failure = 'r';
      } else if (calls >= MOST_CALLS) {
        failure = 'b';
      } else {
        calls++;
        rows[calls] = font.functions[function];
        places[calls] = 0;
      }
    }

    /** Ends a function, or, without a call that stands open, the program. */
    private void comeBack() {
      calls--;
    }

    private long measure(int x, int y) {
      return ((long) x * VECTOR_X[measuring] + (long) y * VECTOR_Y[measuring] + 8192) >> 14;
    }

    private long atFirst(int point) {
      return measure(zone.firstX[point], zone.firstY[point]);
    }

    private long now(int point) {
      return measure(zone.nowX[point], zone.nowY[point]);
    }

    private long rounded(long v) {
      switch (rounding) {
        case 0:
          return Math.floorDiv(v + 32, 64L) * 64;
        case 1:
          return Math.floorDiv(v, 64L) * 64 + 32;
        case 2:
          return Math.floorDiv(v + 16, 32L) * 32;
        case 3:
          return Math.floorDiv(v + 63, 64L) * 64;
        case 4:
          return Math.floorDiv(v, 64L) * 64;
        default:
          return v;
      }
    }

    private static boolean isOutside(long coordinate) {
      return coordinate < -FARTHEST || coordinate > FARTHEST;
    }

    private void moveBy(int point, long distance) {
      long moveX = VECTOR_X[moving];
      long moveY = VECTOR_Y[moving];
      long f = (moveX * VECTOR_X[measuring] + moveY * VECTOR_Y[measuring]) >> 14;
      if (f == 0) {
        failure = 'z';
        return;
      }
      long d = Math.max(-FARTHEST_MOVE, Math.min(FARTHEST_MOVE, distance));
      long x = zone.nowX[point] + d * moveX / f;
      long y = zone.nowY[point] + d * moveY / f;
      if (isOutside(x) || isOutside(y)) {
        failure = 'a';
        return;
      }
      zone.nowX[point] = (int) x;
      zone.nowY[point] = (int) y;
      if (moveX != 0) {
        zone.isTouchedX[point] = true;
      }
      if (moveY != 0) {
        zone.isTouchedY[point] = true;
      }
    }

    /** Faults if a reference is no point of the present zone; answers whether there is no fault. */
    private boolean hasReference(int reference) {
      int point = references[reference];
      if (failure == NO_FAULT && (point < 0 || point >= zone.count)) {
        failure = 'r';
      }
      return failure == NO_FAULT;
    }

    private void pushMeasured(int point) {
      if (failure == NO_FAULT) {
        push(now(point));
      }
    }

    private void moveRounded(int point) {
      if (failure != NO_FAULT) {
        return;
      }
      long measured = now(point);
      moveBy(point, rounded(measured) - measured);
      references[0] = point;
      references[1] = point;
    }

    private void keepDistance(int point) {
      if (!hasReference(0)) {
        return;
      }
      int reference = references[0];
      long e = atFirst(point) - atFirst(reference);
      long kept = e < 0 ? Math.min(-64, -rounded(-e)) : Math.max(64, rounded(e));
      moveBy(point, now(reference) + kept - now(point));
      references[1] = reference;
      references[2] = point;
    }

    private void follow(int point) {
      if (hasReference(0)) {
        moveBy(point, now(references[0]) - atFirst(references[0]));
      }
    }

    private void align(int point) {
      if (hasReference(0)) {
        moveBy(point, now(references[0]) - now(point));
      }
    }

    private void keepBetween(int point) {
      if (!hasReference(1) || !hasReference(2)) {
        return;
      }
      long a = atFirst(references[1]);
      long b = atFirst(references[2]);
      long c = now(references[1]);
      long e = now(references[2]);
      if (a == b) {
        moveBy(point, c - a);
      } else {
        moveBy(point, c + (atFirst(point) - a) * (e - c) / (b - a) - now(point));
      }
    }

    private void moveToNumber() {
      int place = pop();
      int point = popBelow(zone.count);
      if (failure == NO_FAULT && (place < 0 || place >= tableCount)) {
        failure = 'r';
      }
      if (failure != NO_FAULT) {
        return;
      }
      long number = table[place];
      if (zone == still) {
        putStill(point, number);
      }
      if (failure == NO_FAULT) {
        long measured = now(point);
        boolean isFar = Math.abs(number - measured) > 68;
        moveBy(point, rounded(isFar ? measured : number) - measured);
        references[0] = point;
        references[1] = point;
      }
    }

    private void putStill(int point, long number) {
      long x = number * VECTOR_X[measuring] >> 14;
      long y = number * VECTOR_Y[measuring] >> 14;
      if (isOutside(x) || isOutside(y)) {
        failure = 'a';
        return;
      }
      still.firstX[point] = (int) x;
      still.firstY[point] = (int) y;
      still.nowX[point] = (int) x;
      still.nowY[point] = (int) y;
    }

    private void moveAtSize() {
      int distance = pop();
      int size = pop();
      int point = popBelow(zone.count);
      if (failure == NO_FAULT && size == presentSize) {
        moveBy(point, distance);
      }
    }

    private void spreadAll(int direction) {
      Zone points = outline.zone;
      boolean[] isTouched = direction == 0 ? points.isTouchedX : points.isTouchedY;
      int[] first = direction == 0 ? points.firstX : points.firstY;
      int[] now = direction == 0 ? points.nowX : points.nowY;
      for (int i = 0; i < outline.contourCount && failure == NO_FAULT; i++) {
        int from = outline.contourStarts[i];
        int to = outline.contourStarts[i + 1];
        for (int j = from; j < to; j++) {
          int ahead = nearest(isTouched, from, to, j, -1);
          int behind = nearest(isTouched, from, to, j, 1);
          if (!isTouched[j] && ahead >= 0 && behind >= 0) {
            long p = (long) now[ahead] - first[ahead];
            long q = (long) now[behind] - first[behind];
            // With one touched point alone, ahead is behind, and spreading answers p.
            long moved = now[j] + spread(first[j], first[ahead], first[behind], p, q);
            if (isOutside(moved)) {
              failure = 'a';
            } else {
              now[j] = (int) moved;
            }
          }
        }
      }
    }
  }

  /** Fills outlines: lines in 1024ths of a pixel, and rows of pixels. */
  private static final class Canvas {
    private static final int MOST_LINES = 4 * MOST_POINTS;
    private static final int PIXEL = 1024;

    private final int[] fromX = new int[MOST_LINES];
    private final int[] fromY = new int[MOST_LINES];
    private final int[] toX = new int[MOST_LINES];
    private final int[] toY = new int[MOST_LINES];
    private int lineCount = 0;
    private final int[] crossedAt = new int[MOST_LINES];
    private final int[] crossedUp = new int[MOST_LINES];
    private final int[] crossedBy = new int[MOST_LINES];
    private int crossings = 0;
    private int penX = 0;
    private int penY = 0;
    private int bendX = 0;
    private int bendY = 0;
    private boolean isBent = false;
    final long[] rows = new long[SIDE];

    void draw(Outline outline, int rule) {
      lineCount = 0;
      for (int i = 0; i < outline.contourCount; i++) {
        trace(outline, outline.contourStarts[i], outline.contourStarts[i + 1]);
      }
      for (int i = 0; i < SIDE; i++) {
        fillRow(i);
      }
      for (int i = 0; rule > 0 && i < SIDE; i++) {
        mend(i, true);
      }
      for (int i = 0; rule > 1 && i < SIDE; i++) {
        mend(i, false);
      }
    }

    private static int centre(int pixel) {
      return PIXEL * (pixel - 8) + PIXEL / 2;
    }

    private void trace(Outline outline, int from, int to) {
      if (to - from < 2) {
        return;
      }
      int[] x = outline.zone.nowX;
      int[] y = outline.zone.nowY;
      int first = from;
      while (first < to && !outline.isOn[first]) {
        first++;
      }
      isBent = false;
      if (first < to) {
        penX = x[first];
        penY = y[first];
        for (int i = first + 1; i < to; i++) {
          goOver(x[i], y[i], outline.isOn[i]);
        }
        for (int i = from; i <= first; i++) {
          goOver(x[i], y[i], outline.isOn[i]);
        }
      } else {
        int startX = Math.floorDiv(x[to - 1] + x[from], 2);
        int startY = Math.floorDiv(y[to - 1] + y[from], 2);
        penX = startX;
        penY = startY;
        for (int i = from; i < to; i++) {
          goOver(x[i], y[i], false);
        }
        goOver(startX, startY, true);
      }
    }

    private void goOver(int x, int y, boolean isOn) {
      if (isOn && !isBent) {
        addLine(16 * penX, 16 * penY, 16 * x, 16 * y);
      } else if (isOn) {
        addCurve(x, y);
      } else if (isBent) {
        addCurve(Math.floorDiv(bendX + x, 2), Math.floorDiv(bendY + y, 2));
      }
      if (isOn) {
        penX = x;
        penY = y;
      } else {
        bendX = x;
        bendY = y;
      }
      isBent = !isOn;
    }

    /** Goes from the pen over the bend to a point, and leaves the pen there. */
    private void addCurve(int x, int y) {
      int firstX = 9 * penX + 6 * bendX + x;
      int firstY = 9 * penY + 6 * bendY + y;
      int middleX = 4 * penX + 8 * bendX + 4 * x;
      int middleY = 4 * penY + 8 * bendY + 4 * y;
      int lastX = penX + 6 * bendX + 9 * x;
      int lastY = penY + 6 * bendY + 9 * y;
      addLine(16 * penX, 16 * penY, firstX, firstY);
      addLine(firstX, firstY, middleX, middleY);
      addLine(middleX, middleY, lastX, lastY);
      addLine(lastX, lastY, 16 * x, 16 * y);
      penX = x;
      penY = y;
    }

    private void addLine(int x0, int y0, int x1, int y1) {
      if (lineCount < MOST_LINES) {
        fromX[lineCount] = x0;
        fromY[lineCount] = y0;
        toX[lineCount] = x1;
        toY[lineCount] = y1;
        lineCount++;
      }
    }

    /** Finds where lines cross the centres of a row or a column, in order, rounded up or down. */
    private void cross(int number, boolean isRow, boolean isUp) {
      int height = centre(number);
      int[] low = isRow ? fromY : fromX;
      int[] high = isRow ? toY : toX;
      int[] from = isRow ? fromX : fromY;
      int[] to = isRow ? toX : toY;
      crossings = 0;
      for (int i = 0; i < lineCount; i++) {
        long rise = (long) high[i] - low[i];
        if ((low[i] <= height) != (high[i] <= height) && rise != 0) {
          long way = ((long) height - low[i]) * ((long) to[i] - from[i]);
          long shift = isUp ? -Math.floorDiv(-way, rise) : Math.floorDiv(way, rise);
          insert((int) (from[i] + shift), rise > 0 ? 1 : -1, i);
        }
      }
    }

    private void insert(int at, int up, int line) {
      if (crossings >= MOST_LINES) {
        return;
      }
      int place = crossings;
      while (place > 0 && crossedAt[place - 1] > at) {
        crossedAt[place] = crossedAt[place - 1];
        crossedUp[place] = crossedUp[place - 1];
        crossedBy[place] = crossedBy[place - 1];
        place--;
      }
      crossedAt[place] = at;
      crossedUp[place] = up;
      crossedBy[place] = line;
      crossings++;
    }

    /** Rounded up, a crossing is right of a centre just if it is so before it is rounded. */
    private void fillRow(int row) {
      cross(row, true, true);
      int winding = 0;
      for (int i = 0; i < crossings; i++) {
        winding += crossedUp[i];
      }
      long bits = 0;
      int next = 0;
      for (int x = 0; x < SIDE; x++) {
        while (next < crossings && crossedAt[next] <= centre(x)) {
          winding -= crossedUp[next];
          next++;
        }
        if (winding != 0) {
          bits |= 1L << x;
        }
      }
      rows[row] = bits;
    }

    /** Sets pixels of a row or a column where a stem is too thin to hold a centre. */
    private void mend(int number, boolean isRow) {
      cross(number, isRow, false);
      int sum = 0;
      int begin = 0;
      for (int i = 0; i < crossings; i++) {
        int before = sum;
        sum += crossedUp[i];
        while (i + 1 < crossings && crossedAt[i + 1] == crossedAt[i]) {
          i++;
          sum += crossedUp[i];
        }
        if (before == 0 && sum != 0) {
          begin = crossedAt[i];
        } else if (before != 0 && sum == 0) {
          mendBetween(begin, crossedAt[i], number, isRow);
        }
      }
    }

    private void mendBetween(int begin, int end, int number, boolean isRow) {
      long inside = -Math.floorDiv(-((long) begin - centre(0)), (long) PIXEL);
      int firstInside = (int) Math.max(0, inside);
      if (firstInside < SIDE && centre(firstInside) < end) {
        return;
      }
      // All is doubled, as the middle may lie between two numbers; of two centres, the lesser.
      long middle = (long) begin + end;
      long found = Math.floorDiv(middle - 2L * centre(0) + PIXEL - 1, 2L * PIXEL);
      int pixel = (int) Math.max(0, Math.min(SIDE - 1, found));
      if (Math.abs(2L * centre(pixel) - middle) > 2L * PIXEL) {
        return;
      }
      if (isRow) {
        rows[number] |= 1L << pixel;
      } else {
        rows[pixel] |= 1L << number;
      }
    }

    /** Compares the rows that are filled with the winding number of each centre. */
    boolean isFilledByWinding() {
      for (int y = 0; y < SIDE; y++) {
        cross(y, true, false);
        for (int x = 0; x < SIDE; x++) {
          if ((windingAt(x, y) != 0) != isSet(rows, x, y)) {
            return false;
          }
        }
      }
      return true;
    }

    private int windingAt(int x, int y) {
      int winding = 0;
      for (int i = 0; i < crossings; i++) {
        int line = crossedBy[i];
        long rise = (long) toY[line] - fromY[line];
        long way = ((long) centre(y) - fromY[line]) * ((long) toX[line] - fromX[line]);
        long right = ((long) fromX[line] - centre(x)) * rise + way;
        if (rise > 0 ? right > 0 : right < 0) {
          winding += crossedUp[i];
        }
      }
      return winding;
    }
  }

  /** The last drawn glyphs, by what they were drawn with. */
  private static final class Cache {
    private static final int MOST_KEPT = 4;
    private static final long NOTHING = -1;

    private final long[] keys = new long[MOST_KEPT];
    private final int[] askedAt = new int[MOST_KEPT];
    private final long[][] kept = new long[MOST_KEPT][SIDE];
    private int asked = 0;
    int hitCount = 0;
    int drawCount = 0;

    Cache() {
      Arrays.fill(keys, NOTHING);
    }

    void empty() {
      Arrays.fill(keys, NOTHING);
    }

    /** The place of what is kept, or -1. */
    int find(long key) {
      for (int i = 0; i < MOST_KEPT; i++) {
        if (keys[i] == key) {
          return i;
        }
      }
      return -1;
    }

    /** Keeps what was drawn, and answers its place. */
    int put(long key, long[] rows) {
      int place = 0;
      for (int i = 1; i < MOST_KEPT; i++) {
        boolean isBetter = keys[i] == NOTHING || askedAt[i] < askedAt[place];
        if (keys[place] != NOTHING && isBetter) {
          place = i;
        }
      }
      keys[place] = key;
      System.arraycopy(rows, 0, kept[place], 0, SIDE);
      drawCount++;
      return place;
    }

    long[] ask(int place) {
      asked++;
      askedAt[place] = asked;
      return kept[place];
    }
  }

  /** The subset as a row of ints. */
  private static final class Archive {
    private static final int HEAD = 4;
    private static final int IN_GLYPH =
        3
            + 4 * MOST_OWN_POINTS
            + 5 * MOST_PARTS
            + MOST_REGIONS * (4 + 4 * (MOST_OWN_POINTS + 1))
            + 2 * MOST_INSTRUCTIONS
            + 2 * MOST_LAYERS;
    private static final int LONGEST =
        HEAD
            + MOST_GLYPHS * IN_GLYPH
            + MOST_FUNCTIONS * (1 + 2 * MOST_IN_FUNCTION)
            + MOST_NUMBERS;

    private final int[] row = new int[LONGEST];
    int length = 0;
    private int readAt = 0;

    private void put(int number) {
      if (length < LONGEST) {
        row[length] = number;
        length++;
      }
    }

    private int take() {
      if (readAt >= length) {
        return 0;
      }
      readAt++;
      return row[readAt - 1];
    }

    private static int limited(int count, int most) {
      return Math.max(0, Math.min(most, count));
    }

    void write(Font font) {
      length = 0;
      put(font.numberSubset());
      put(font.functionCount);
      put(font.numberCount);
      put(0);
      for (int i = 0; i < font.glyphCount; i++) {
        if (font.subsetNumbers[i] >= 0) {
          writeGlyph(font.glyphs[i], font.subsetNumbers);
        }
      }
      for (int i = 0; i < font.functionCount; i++) {
        put(font.functions[i].count);
        writeProgram(font.functions[i]);
      }
      for (int i = 0; i < font.numberCount; i++) {
        put(font.numbers[i]);
      }
      row[HEAD - 1] = length;
    }

    private void writeGlyph(Glyph glyph, int[] newNumbers) {
      put(glyph.advanceUnits);
      put(glyph.pointCount + (glyph.partCount << 8) + (glyph.regionCount << 12)
          + (glyph.layerCount << 16));
      put(2 * glyph.program.count + (glyph.isEnded ? 1 : 0));
      for (int i = 0; i < glyph.pointCount; i++) {
        put(glyph.x[i]);
        put(glyph.y[i]);
        put(glyph.isOn[i] ? 1 : 0);
        put(glyph.contour[i]);
      }
      for (int i = 0; i < glyph.partCount; i++) {
        put(i);
        put(newNumbers[glyph.parts[i].other]);
        put(glyph.parts[i].dx);
        put(glyph.parts[i].dy);
        put(glyph.parts[i].scale);
      }
      for (int i = 0; i < glyph.regionCount; i++) {
        writeRegion(glyph.regions[i], i);
      }
      writeProgram(glyph.program);
      for (int i = 0; i < glyph.layerCount; i++) {
        put(newNumbers[glyph.layerGlyphs[i]]);
        put(glyph.layerColours[i]);
      }
    }

    private void writeRegion(Region region, int number) {
      put(region.first);
      put(region.second);
      put(region.toldCount);
      put(region.isAdvanceTold ? 1 : 0);
      for (int i = 0; i < MOST_OWN_POINTS; i++) {
        if (region.isTold[i]) {
          writeDelta(number, i, region.dx[i], region.dy[i]);
        }
      }
      if (region.isAdvanceTold) {
        writeDelta(number, ADVANCE_POINT, region.advanceDelta, 0);
      }
    }

    private void writeDelta(int region, int point, int dx, int dy) {
      put(region);
      put(point);
      put(dx);
      put(dy);
    }

    private void writeProgram(Program program) {
      for (int i = 0; i < program.count; i++) {
        put(program.kinds[i]);
        put(program.operands[i]);
      }
    }

    void read(Font font) {
      readAt = 0;
      font.glyphCount = limited(take(), MOST_GLYPHS);
      font.functionCount = limited(take(), MOST_FUNCTIONS);
      font.numberCount = limited(take(), MOST_NUMBERS);
      length = limited(take(), LONGEST);
      for (int i = 0; i < font.glyphCount; i++) {
        readGlyph(font.glyphs[i], font.glyphCount);
      }
      for (int i = 0; i < font.functionCount; i++) {
        readProgram(font.functions[i], take());
      }
      for (int i = 0; i < font.numberCount; i++) {
        font.numbers[i] = take();
      }
    }

    private void readGlyph(Glyph glyph, int glyphCount) {
      glyph.restart(take());
      int counts = take();
      int flags = take();
      readPoints(glyph, limited(counts & 255, MOST_OWN_POINTS));
      glyph.isEnded = (flags & 1) != 0;
      int partCount = limited((counts >> 8) & 15, MOST_PARTS);
      for (int i = 0; i < partCount; i++) {
        int place = limited(take(), MOST_PARTS - 1);
        int other = limited(take(), glyphCount - 1);
        int dx = take();
        int dy = take();
        glyph.parts[place].set(other, dx, dy, take());
      }
      glyph.partCount = partCount;
      glyph.regionCount = limited((counts >> 12) & 15, MOST_REGIONS);
      for (int i = 0; i < glyph.regionCount; i++) {
        readRegion(glyph.regions[i]);
      }
      readProgram(glyph.program, flags >> 1);
      glyph.layerCount = limited((counts >> 16) & 15, MOST_LAYERS);
      for (int i = 0; i < glyph.layerCount; i++) {
        glyph.layerGlyphs[i] = limited(take(), glyphCount - 1);
        glyph.layerColours[i] = take();
      }
    }

    private void readPoints(Glyph glyph, int count) {
      for (int i = 0; i < count; i++) {
        int x = take();
        int y = take();
        boolean isOn = take() != 0;
        glyph.isEnded = take() >= glyph.contourCount;
        glyph.append(x, y, isOn);
      }
    }

    private void readRegion(Region region) {
      int first = take();
      region.restart(first, take());
      int told = take();
      int deltas = limited(told + take(), MOST_OWN_POINTS + 1);
      for (int i = 0; i < deltas; i++) {
        take();
        int point = take();
        int dx = take();
        region.tell(point, dx, take());
      }
    }

    private void readProgram(Program program, int count) {
      program.count = 0;
      int most = limited(count, program.kinds.length);
      for (int i = 0; i < most; i++) {
        char kind = (char) take();
        program.append(kind, take());
      }
    }
  }
}
