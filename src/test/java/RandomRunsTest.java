import java.util.Random;

/** Random runs of 512 calls, with each answer compared with the one of the plain model. */
public final class RandomRunsTest {
  private static final String KINDS = "pdxo+-*/<=~MFZRSmirklbIDwvsqGHjcCe";

  private final Random random;
  private final HintForge forge = new HintForge();
  private final Naive naive = new Naive();
  private final StringBuilder told = new StringBuilder();
  private boolean isRight = true;

  private RandomRunsTest(long seed) {
    random = new Random(seed);
  }

  public static void main(String[] args) {
    int runs = args.length > 0 ? Integer.parseInt(args[0]) : 400;
    int first = args.length > 1 ? Integer.parseInt(args[1]) : 0;
    for (int seed = first; seed < first + runs; seed++) {
      RandomRunsTest run = new RandomRunsTest(seed);
      run.run(seed);
    }
    Check.end("RandomRunsTest");
  }

  private void run(int seed) {
    int style = seed % 4;
    for (int i = 0; i < 512 && isRight; i++) {
      step(i, style);
    }
    if (!isRight) {
      System.out.println("seed " + seed + ":\n" + told);
    }
  }

  private int upTo(int n) {
    return random.nextInt(n);
  }

  private int between(int least, int greatest) {
    return least + random.nextInt(greatest - least + 1);
  }

  /** Mostly in the range, at times just outside or at its ends. */
  private int about(int least, int greatest) {
    int way = upTo(60);
    if (way == 0) {
      return least - 1;
    }
    if (way == 1) {
      return greatest + 1;
    }
    if (way == 2) {
      return least;
    }
    if (way == 3) {
      return greatest;
    }
    return between(least, greatest);
  }

  private int glyph() {
    return upTo(40) == 0 ? between(-1, 12) : upTo(Math.max(1, naive.glyphs.size()));
  }

  private int coordinate(int style) {
    switch (style) {
      case 0:
        return 20 * between(-4, 30);
      case 1:
        return between(-30, 300);
      case 2:
        return about(-2000, 2000);
      default:
        return between(0, 60) * 5;
    }
  }

  private void compare(String call, Check.Call due, Check.Call got) {
    Object a = Check.answerOf(due);
    Object b = Check.answerOf(got);
    told.append(call).append(" -> ").append(b).append('\n');
    if (!a.equals(b)) {
      isRight = false;
    }
    Check.same(call, b, a);
  }

  private void step(int turn, int style) {
    int most = turn < 60 ? 8 : turn < 200 ? 14 : 24;
    if (naive.glyphs.isEmpty() || turn < 20 && upTo(5) == 0) {
      addGlyph();
      return;
    }
    switch (upTo(most)) {
      case 0:
      case 1:
      case 2:
        for (int i = upTo(5); i >= 0 && isRight; i--) {
          addPoint(style);
        }
        break;
      case 3:
        build(style);
        break;
      case 4:
      case 5:
        program();
        break;
      case 6:
        vary();
        break;
      case 7:
        settings();
        break;
      case 8:
      case 9:
      case 10:
        lookAtPoints();
        break;
      case 11:
      case 12:
      case 13:
      case 14:
      case 15:
        drawOne();
        break;
      case 16:
      case 17:
        metrics();
        break;
      case 18:
        colours();
        break;
      case 19:
        subsets();
        break;
      case 20:
        clear();
        break;
      default:
        machineOne();
        break;
    }
  }

  private void addGlyph() {
    int advance = about(0, 2000);
    compare("addGlyph " + advance, () -> naive.addGlyph(advance), () -> forge.addGlyph(advance));
  }

  private void addPoint(int style) {
    int g = glyph();
    int x = coordinate(style);
    int y = coordinate(style);
    boolean on = upTo(3) != 0;
    compare("addPoint " + g + " " + x + " " + y + " " + on,
        () -> naive.addPoint(g, x, y, on), () -> forge.addPoint(g, x, y, on));
  }

  private void build(int style) {
    int g = glyph();
    switch (upTo(4)) {
      case 0:
        compare("endContour " + g, () -> naive.endContour(g), () -> forge.endContour(g));
        break;
      case 1:
        int point = between(-1, 9);
        int x = coordinate(style);
        int y = coordinate(style);
        compare("movePoint " + g + " " + point + " " + x + " " + y,
            () -> naive.movePoint(g, point, x, y), () -> forge.movePoint(g, point, x, y));
        break;
      case 2:
        int other = glyph();
        int dx = style == 2 ? about(-2000, 2000) : between(-200, 300);
        int dy = style == 2 ? about(-2000, 2000) : between(-200, 300);
        int scale = about(1, 128);
        compare("addPart " + g + " " + other + " " + dx + " " + dy + " " + scale,
            () -> naive.addPart(g, other, dx, dy, scale),
            () -> forge.addPart(g, other, dx, dy, scale));
        break;
      default:
        compare("points " + g, () -> naive.points(g), () -> forge.points(g));
        break;
    }
  }

  private void vary() {
    int g = glyph();
    if (upTo(4) == 0) {
      int first = about(-100, 100);
      int second = upTo(2) == 0 ? 0 : about(-100, 100);
      compare("addRegion " + g + " " + first + " " + second,
          () -> naive.addRegion(g, first, second), () -> forge.addRegion(g, first, second));
      return;
    }
    int region = upTo(8) == 0 ? between(-1, 3) : 0;
    int point = between(-2, 9);
    int dx = upTo(3) == 0 ? about(-1000, 1000) : between(-90, 90);
    int near = upTo(3) == 0 ? about(-1000, 1000) : between(-90, 90);
    int dy = upTo(12) == 0 ? random.nextInt() : near;
    compare("setDelta " + g + " " + region + " " + point + " " + dx + " " + dy,
        () -> naive.setDelta(g, region, point, dx, dy),
        () -> forge.setDelta(g, region, point, dx, dy));
  }

  private void settings() {
    switch (upTo(5)) {
      case 0:
        int size = about(4, 32);
        compare("setSize " + size, () -> naive.setSize(size), () -> forge.setSize(size));
        break;
      case 1:
        boolean is = upTo(3) != 0;
        compare("setHinting " + is, () -> naive.setHinting(is), () -> forge.setHinting(is));
        break;
      case 2:
        int rule = about(0, 2);
        compare("setRule " + rule, () -> naive.setRule(rule), () -> forge.setRule(rule));
        break;
      default:
        int axis = about(0, 1);
        int value = about(-100, 100);
        compare("setAxis " + axis + " " + value,
            () -> naive.setAxis(axis, value), () -> forge.setAxis(axis, value));
        break;
    }
  }

  private void program() {
    switch (upTo(12)) {
      case 0:
        compare("addFunction", () -> naive.addFunction(), () -> forge.addFunction());
        break;
      case 1:
        int number = upTo(3) == 0 ? about(-2000, 2000) : between(-100, 300);
        compare("addNumber " + number, () -> naive.addNumber(number), () -> forge.addNumber(number));
        break;
      case 2:
      case 3:
        int f = about(0, Math.max(0, naive.functions.size() - 1));
        for (String token : phrase().split(" ")) {
          char kind = token.charAt(0);
          int n = token.length() > 1 ? Integer.parseInt(token.substring(1)) : 0;
          compare("extendFunction " + f + " " + token,
              () -> naive.extendFunction(f, kind, n), () -> forge.extendFunction(f, kind, n));
        }
        break;
      default:
        int g = glyph();
        for (int i = upTo(3); i >= 0; i--) {
          tell(g, phrase());
        }
        break;
    }
  }

  private void tell(int g, String phrase) {
    for (String token : phrase.split(" ")) {
      char kind = token.charAt(0);
      int n = token.length() > 1 ? Integer.parseInt(token.substring(1)) : 0;
      compare("addInstruction " + g + " " + token,
          () -> naive.addInstruction(g, kind, n), () -> forge.addInstruction(g, kind, n));
    }
  }

  /** A few instructions that most often run without a fault. */
  private String phrase() {
    String point = "p" + (upTo(12) == 0 ? between(-1, 30) : upTo(5));
    switch (upTo(22)) {
      case 0:
        return point + " m";
      case 1:
        return point + " r";
      case 2:
        return point + " k";
      case 3:
        return point + " l";
      case 4:
        return point + " b";
      case 5:
        return point + " p" + upTo(3) + " i";
      case 6:
        return "p" + upTo(2) + " I";
      case 7:
        return point + " H p" + between(-90, 90) + " D";
      case 8:
        return "R" + upTo(6);
      case 9:
        return "p" + upTo(4) + " M";
      case 10:
        return "p" + upTo(4) + " d M F";
      case 11:
        return "p" + (upTo(3) == 0 ? 0 : 1) + " Z";
      case 12:
        return point + " S" + upTo(3);
      case 13:
        return point + " G p" + between(-99, 99) + " " + "+-*/<=".charAt(upTo(6)) + " H x " + point + " x o";
      case 14:
        return "p" + upTo(8) + " p" + between(-99999, 99999) + " s p" + upTo(8) + " q";
      case 15:
        return "p" + upTo(3) + " d v p" + between(-40, 40) + " + w";
      case 16:
        return "C" + upTo(4);
      case 17:
        return "p3 p-1 + d c-3 o";
      case 18:
        return "p" + upTo(2) + " c" + between(-3, 4);
      case 19:
        return "j" + between(-1, 3);
      case 20:
        return "p" + between(-99999, 99999) + " d * " + (upTo(2) == 0 ? "d *" : "~");
      default:
        char kind = KINDS.charAt(upTo(KINDS.length()));
        return kind + "" + between(0, 3);
    }
  }

  private void lookAtPoints() {
    int g = glyph();
    int point = between(-1, naive.glyphs.size() > g && g >= 0 ? naive.points(g) : 3);
    boolean is = upTo(3) != 0;
    compare("pointX " + g + " " + point + " " + is,
        () -> naive.pointX(g, point, is), () -> forge.pointX(g, point, is));
    compare("pointY " + g + " " + point + " " + is,
        () -> naive.pointY(g, point, is), () -> forge.pointY(g, point, is));
  }

  private void machineOne() {
    int g = glyph();
    compare("fault " + g, () -> naive.fault(g), () -> forge.fault(g));
    compare("steps " + g, () -> naive.steps(g), () -> forge.steps(g));
    compare("isExact " + g, () -> naive.isExact(g), () -> forge.isExact(g));
  }

  private void drawOne() {
    int g = glyph();
    int x = upTo(2) == 0 ? about(0, 47) : between(6, 20);
    int y = upTo(2) == 0 ? about(0, 47) : between(6, 20);
    switch (upTo(6)) {
      case 0:
        compare("pixel " + g + " " + x + " " + y,
            () -> naive.pixel(g, x, y), () -> forge.pixel(g, x, y));
        break;
      case 1:
      case 2:
        compare("rowOf " + g + " " + y, () -> naive.rowOf(g, y), () -> forge.rowOf(g, y));
        break;
      case 3:
        compare("isWound " + g, () -> naive.isWound(g), () -> forge.isWound(g));
        break;
      case 4:
        compare("inkShare " + g, () -> naive.inkShare(g), () -> forge.inkShare(g));
        break;
      default:
        compare("pixels " + g, () -> naive.pixels(g), () -> forge.pixels(g));
        break;
    }
    compare("hits", () -> naive.hits, () -> forge.hits());
    compare("drawings", () -> naive.drawings, () -> forge.drawings());
    if (g >= 0 && g < naive.glyphs.size() && naive.points(g) <= 80 && upTo(4) == 0) {
      for (int row = 0; row < 48; row++) {
        int at = row;
        compare("rowOf " + g + " " + row, () -> naive.rowOf(g, at), () -> forge.rowOf(g, at));
      }
    }
  }

  private void metrics() {
    int g = glyph();
    int a = about(0, 4);
    int b = about(0, 4);
    int units = about(-1000, 1000);
    boolean is = upTo(2) == 0;
    switch (upTo(7)) {
      case 0:
        compare("setClass", () -> naive.setClass(g, a, b), () -> forge.setClass(g, a, b));
        break;
      case 1:
        compare("kern", () -> naive.kern(a, b, units), () -> forge.kern(a, b, units));
        break;
      case 2:
      case 3:
        compare("type " + g, () -> naive.type(g), () -> forge.type(g));
        break;
      case 4:
        compare("width", () -> naive.width(), () -> forge.width());
        break;
      case 5:
        compare("mean", () -> naive.meanAdvance(), () -> forge.meanAdvance());
        break;
      default:
        compare("advance " + g + is, () -> naive.advance(g, is), () -> forge.advance(g, is));
        break;
    }
  }

  private void colours() {
    int g = glyph();
    int other = glyph();
    int colour = about(1, 9);
    int x = between(5, 20);
    int y = between(5, 20);
    if (upTo(3) == 0) {
      compare("addColour " + g + " " + other + " " + colour,
          () -> naive.addColour(g, other, colour), () -> forge.addColour(g, other, colour));
    } else {
      compare("colourAt " + g + " " + x + " " + y,
          () -> naive.colourAt(g, x, y), () -> forge.colourAt(g, x, y));
      compare("hits", () -> naive.hits, () -> forge.hits());
      compare("drawings", () -> naive.drawings, () -> forge.drawings());
    }
  }

  private void subsets() {
    int g = glyph();
    boolean is = upTo(3) != 0;
    switch (upTo(5)) {
      case 0:
        compare("keep " + g + is, () -> naive.keep(g, is), () -> forge.keep(g, is));
        break;
      case 1:
        compare("subset", () -> naive.subset(), () -> forge.subset());
        break;
      case 2:
        compare("numberOf " + g, () -> naive.numberOf(g), () -> forge.numberOf(g));
        break;
      case 3:
        compare("written", () -> naive.written(), () -> forge.written());
        break;
      default:
        compare("isSame " + g, () -> naive.isSame(g), () -> forge.isSame(g));
        break;
    }
  }

  private void clear() {
    int g = glyph();
    if (upTo(3) == 0) {
      compare("clearText", () -> naive.clearText(), () -> forge.clearText());
    } else {
      compare("clearProgram " + g, () -> naive.clearProgram(g), () -> forge.clearProgram(g));
    }
  }
}
