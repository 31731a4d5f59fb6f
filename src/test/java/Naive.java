import java.math.BigInteger;
import java.util.ArrayDeque;
import java.util.ArrayList;
import java.util.Arrays;
import java.util.Collections;
import java.util.LinkedHashMap;
import java.util.List;
import java.util.Map;
import java.util.NoSuchElementException;
import java.util.Set;
import java.util.TreeMap;
import java.util.TreeSet;

/**
 * The document once more, written as plainly as may be and with the whole Java library, so that
 * random runs can be compared. Big numbers keep all reckoning exact.
 */
final class Naive {
  static final class Fault extends RuntimeException {
    final char kind;
    final boolean isPush;

    Fault(char kind, boolean isPush) {
      super(null, null, false, false);
      this.kind = kind;
      this.isPush = isPush;
    }
  }

  static final class Pt {
    long x;
    long y;
    boolean on;
    int contour;
    long fx;
    long fy;
    boolean tx;
    boolean ty;

    Pt(long x, long y, boolean on, int contour) {
      this.x = x;
      this.y = y;
      this.on = on;
      this.contour = contour;
    }
  }

  static final class Reg {
    int[] peak;
    Map<Integer, int[]> deltas = new TreeMap<>();
    Integer advance;
  }

  static final class Gl {
    int advance;
    List<Pt> own = new ArrayList<>();
    int contours;
    boolean open;
    List<int[]> parts = new ArrayList<>();
    List<Reg> regions = new ArrayList<>();
    List<int[]> program = new ArrayList<>();
    List<int[]> layers = new ArrayList<>();
    int left;
    int right;
    boolean kept;
  }

  final List<Gl> glyphs = new ArrayList<>();
  final List<List<int[]>> functions = new ArrayList<>();
  final List<Integer> numbers = new ArrayList<>();
  final List<Integer> text = new ArrayList<>();
  final int[][] kern = new int[5][5];
  final int[] axis = new int[2];
  int size = 12;
  int rule = 0;
  boolean hinting = true;
  int hits = 0;
  int drawings = 0;
  final LinkedHashMap<String, boolean[][]> cache = new LinkedHashMap<>();

  char lastFault;
  boolean lastPush;
  int lastSteps;

  static long fl(long a, long b) {
    return Math.floorDiv(a, b);
  }

  static void index(boolean is) {
    if (!is) {
      throw new IndexOutOfBoundsException();
    }
  }

  static void argument(boolean is) {
    if (!is) {
      throw new IllegalArgumentException();
    }
  }

  static void state(boolean is) {
    if (!is) {
      throw new IllegalStateException();
    }
  }

  static boolean in(int v, int a, int b) {
    return a <= v && v <= b;
  }

  Gl at(int g) {
    index(in(g, 0, glyphs.size() - 1));
    return glyphs.get(g);
  }

  void drawable(int g) {
    at(g);
    if (points(g) > 80) {
      throw new UnsupportedOperationException();
    }
  }

  int addGlyph(int advance) {
    argument(in(advance, 0, 2000));
    state(glyphs.size() < 12);
    Gl g = new Gl();
    g.advance = advance;
    glyphs.add(g);
    return glyphs.size() - 1;
  }

  int addPoint(int glyph, int x, int y, boolean on) {
    Gl g = at(glyph);
    argument(in(x, -2000, 2000) && in(y, -2000, 2000));
    state(g.own.size() < 40);
    cache.clear();
    if (!g.open) {
      g.open = true;
      g.contours++;
    }
    g.own.add(new Pt(x, y, on, g.contours));
    return g.own.size() - 1;
  }

  int endContour(int glyph) {
    Gl g = at(glyph);
    state(g.open);
    cache.clear();
    g.open = false;
    return g.contours;
  }

  int movePoint(int glyph, int point, int x, int y) {
    Gl g = at(glyph);
    index(in(point, 0, g.own.size() - 1));
    argument(in(x, -2000, 2000) && in(y, -2000, 2000));
    cache.clear();
    int before = (int) g.own.get(point).x;
    g.own.get(point).x = x;
    g.own.get(point).y = y;
    return before;
  }

  boolean has(int glyph, int sought) {
    if (glyph == sought) {
      return true;
    }
    for (int[] part : glyphs.get(glyph).parts) {
      if (has(part[0], sought)) {
        return true;
      }
    }
    return false;
  }

  int addPart(int glyph, int other, int dx, int dy, int scale) {
    Gl g = at(glyph);
    at(other);
    argument(in(dx, -2000, 2000) && in(dy, -2000, 2000) && in(scale, 1, 128));
    if (has(other, glyph)) {
      throw new UnsupportedOperationException();
    }
    state(g.parts.size() < 3);
    cache.clear();
    g.parts.add(new int[] {other, dx, dy, scale});
    return g.parts.size();
  }

  int contourPoints(int glyph) {
    int sum = glyphs.get(glyph).own.size();
    for (int[] part : glyphs.get(glyph).parts) {
      sum += contourPoints(part[0]);
    }
    return sum;
  }

  int points(int glyph) {
    at(glyph);
    return contourPoints(glyph) + 2;
  }

  int setAxis(int a, int value) {
    index(in(a, 0, 1));
    argument(in(value, -100, 100));
    int before = axis[a];
    axis[a] = value;
    return before;
  }

  int addRegion(int glyph, int first, int second) {
    Gl g = at(glyph);
    argument(in(first, -100, 100) && in(second, -100, 100) && (first != 0 || second != 0));
    state(g.regions.size() < 3);
    cache.clear();
    Reg r = new Reg();
    r.peak = new int[] {first, second};
    g.regions.add(r);
    return g.regions.size() - 1;
  }

  int setDelta(int glyph, int region, int point, int dx, int dy) {
    Gl g = at(glyph);
    index(in(region, 0, g.regions.size() - 1));
    index(in(point, -1, g.own.size() - 1));
    argument(in(dx, -1000, 1000) && (point < 0 || in(dy, -1000, 1000)));
    cache.clear();
    Reg r = g.regions.get(region);
    if (point < 0) {
      r.advance = dx;
    } else {
      r.deltas.put(point, new int[] {dx, dy});
    }
    return r.deltas.size();
  }

  int setSize(int s) {
    argument(in(s, 4, 32));
    int before = size;
    size = s;
    return before;
  }

  static void instruction(char kind, int n) {
    argument("pdxo+-*/<=~MFZRSmirklbIDwvsqGHjcCe".indexOf(kind) >= 0);
    argument(kind != 'p' || in(n, -99999, 99999));
    argument(kind != 'R' || in(n, 0, 5));
    argument(kind != 'S' || in(n, 0, 2));
    argument(kind != 'j' && kind != 'c' || in(n, -60, 60));
    argument(kind != 'C' || in(n, 0, 3));
  }

  int addInstruction(int glyph, char kind, int n) {
    Gl g = at(glyph);
    instruction(kind, n);
    state(g.program.size() < 60);
    cache.clear();
    g.program.add(new int[] {kind, n});
    return g.program.size();
  }

  int clearProgram(int glyph) {
    Gl g = at(glyph);
    cache.clear();
    int before = g.program.size();
    g.program.clear();
    return before;
  }

  int addFunction() {
    state(functions.size() < 4);
    cache.clear();
    functions.add(new ArrayList<>());
    return functions.size() - 1;
  }

  int extendFunction(int f, char kind, int n) {
    index(in(f, 0, functions.size() - 1));
    instruction(kind, n);
    state(functions.get(f).size() < 30);
    cache.clear();
    functions.get(f).add(new int[] {kind, n});
    return functions.get(f).size();
  }

  int addNumber(int number) {
    argument(in(number, -2000, 2000));
    state(numbers.size() < 16);
    cache.clear();
    numbers.add(number);
    return numbers.size() - 1;
  }

  boolean setHinting(boolean is) {
    boolean before = hinting;
    hinting = is;
    return before;
  }

  int setRule(int r) {
    argument(in(r, 0, 2));
    int before = rule;
    rule = r;
    return before;
  }

  long scaled(long v) {
    return fl(v * size * 128 + 1000, 2000);
  }

  /** Numerator and denominator of the weight for one axis. */
  static long[] weight(int peak, int value) {
    if (peak == 0) {
      return new long[] {1, 1};
    }
    if (value == 0 || Integer.signum(value) != Integer.signum(peak)) {
      return new long[] {0, 1};
    }
    if (Math.abs(value) >= Math.abs(peak)) {
      return new long[] {1, 1};
    }
    return peak > 0 ? new long[] {value, peak} : new long[] {-value, -peak};
  }

  long product(Reg r, long delta) {
    long[] a = weight(r.peak[0], axis[0]);
    long[] b = weight(r.peak[1], axis[1]);
    long up = a[0] * b[0] * delta;
    long down = a[1] * b[1];
    return fl(2 * up + down, 2 * down);
  }

  static long spreading(long v, long a, long b, long p, long q) {
    if (a == b) {
      return p == q ? p : 0;
    }
    if (a > b) {
      return spreading(v, b, a, q, p);
    }
    if (v <= a) {
      return p;
    }
    if (v >= b) {
      return q;
    }
    return p + fl(2 * (q - p) * (v - a) + (b - a), 2 * (b - a));
  }

  /** The points of a glyph in units, without begin and end. */
  List<Pt> units(int glyph, int[] contours) {
    Gl g = glyphs.get(glyph);
    List<Pt> all = new ArrayList<>();
    int base = contours[0];
    contours[0] += g.contours;
    for (Pt p : g.own) {
      all.add(new Pt(p.x, p.y, p.on, base + p.contour));
    }
    for (Reg r : g.regions) {
      for (int i = 0; i < g.own.size(); i++) {
        all.get(i).x += product(r, delta(g, r, i, 0));
        all.get(i).y += product(r, delta(g, r, i, 1));
      }
    }
    for (int[] part : g.parts) {
      for (Pt p : units(part[0], contours)) {
        all.add(new Pt(
            fl(2 * p.x * part[3] + 64, 128) + part[1],
            fl(2 * p.y * part[3] + 64, 128) + part[2], p.on, p.contour));
      }
    }
    return all;
  }

  long delta(Gl g, Reg r, int i, int way) {
    if (r.deltas.containsKey(i)) {
      return r.deltas.get(i)[way];
    }
    List<Integer> contour = new ArrayList<>();
    for (int j = 0; j < g.own.size(); j++) {
      if (g.own.get(j).contour == g.own.get(i).contour) {
        contour.add(j);
      }
    }
    List<Integer> told = new ArrayList<>(contour);
    told.retainAll(r.deltas.keySet());
    if (told.isEmpty()) {
      return 0;
    }
    int ahead = told.get(told.size() - 1);
    int next = told.get(0);
    for (int j : told) {
      if (j < i) {
        ahead = j;
      }
    }
    for (int k = told.size() - 1; k >= 0; k--) {
      if (told.get(k) > i) {
        next = told.get(k);
      }
    }
    if (told.size() == 1) {
      return r.deltas.get(ahead)[way];
    }
    return spreading(along(g.own.get(i), way), along(g.own.get(ahead), way),
        along(g.own.get(next), way), r.deltas.get(ahead)[way], r.deltas.get(next)[way]);
  }

  static long along(Pt p, int way) {
    return way == 0 ? p.x : p.y;
  }

  List<Pt> scaledPoints(int glyph) {
    List<Pt> all = units(glyph, new int[1]);
    Gl g = glyphs.get(glyph);
    long advance = g.advance;
    for (Reg r : g.regions) {
      advance += r.advance == null ? 0 : product(r, r.advance);
    }
    all.add(new Pt(0, 0, false, -1));
    all.add(new Pt(advance, 0, false, -1));
    for (Pt p : all) {
      p.x = scaled(p.x);
      p.y = scaled(p.y);
      p.fx = p.x;
      p.fy = p.y;
    }
    return all;
  }

  /** Runs the program; answers the points after it. */
  List<Pt> run(int glyph) {
    Run run = new Run(scaledPoints(glyph));
    lastFault = '-';
    lastPush = false;
    try {
      run.row(glyphs.get(glyph).program, 0);
    } catch (Fault f) {
      lastFault = f.kind;
      lastPush = f.isPush;
    }
    lastSteps = run.steps;
    return lastFault == '-' ? run.glyph : scaledPoints(glyph);
  }

  List<Pt> shape(int glyph, boolean isHinted) {
    boolean runs = isHinted && hinting && !glyphs.get(glyph).program.isEmpty();
    return runs ? run(glyph) : scaledPoints(glyph);
  }

  final class Run {
    final List<Pt> glyph;
    final List<Pt> still = new ArrayList<>();
    List<Pt> zone;
    final ArrayDeque<Integer> stack = new ArrayDeque<>();
    final int[] store = new int[8];
    final List<Integer> table = new ArrayList<>();
    final int[] ref = new int[3];
    int m = 0;
    int f = 0;
    int rounding = 0;
    int steps = 0;
    final long[][] vectors = {{16384, 0}, {0, 16384}, {11585, 11585}, {11585, -11585}};

    Run(List<Pt> glyph) {
      this.glyph = glyph;
      zone = glyph;
      for (int i = 0; i < 8; i++) {
        still.add(new Pt(0, 0, false, -1));
      }
      for (int n : numbers) {
        table.add((int) scaled(n));
      }
    }

    void need(boolean is, char kind) {
      if (!is) {
        throw new Fault(kind, false);
      }
    }

    int pop() {
      need(!stack.isEmpty(), 'u');
      return stack.pop();
    }

    void push(BigInteger v) {
      need(stack.size() < 24, 'o');
      if (v.bitLength() > 31) {
        throw new Fault('a', true);
      }
      stack.push(v.intValue());
    }

    void push(long v) {
      push(BigInteger.valueOf(v));
    }

    Pt point(int p) {
      need(in(p, 0, zone.size() - 1), 'r');
      return zone.get(p);
    }

    long now(Pt p) {
      return (p.x * vectors[m][0] + p.y * vectors[m][1] + 8192) >> 14;
    }

    long first(Pt p) {
      return (p.fx * vectors[m][0] + p.fy * vectors[m][1] + 8192) >> 14;
    }

    long round(long v) {
      switch (rounding) {
        case 0:
          return fl(v + 32, 64) * 64;
        case 1:
          return fl(v, 64) * 64 + 32;
        case 2:
          return fl(v + 16, 32) * 32;
        case 3:
          return -fl(-v, 64) * 64;
        case 4:
          return fl(v, 64) * 64;
        default:
          return v;
      }
    }

    long coordinate(BigInteger v) {
      need(v.abs().compareTo(BigInteger.valueOf(1000000)) <= 0, 'a');
      return v.longValueExact();
    }

    void move(Pt p, long d) {
      long fx = vectors[f][0];
      long fy = vectors[f][1];
      long along = (fx * vectors[m][0] + fy * vectors[m][1]) >> 14;
      need(along != 0, 'z');
      BigInteger big = BigInteger.valueOf(d);
      BigInteger by = BigInteger.valueOf(along);
      long x = coordinate(big.multiply(BigInteger.valueOf(fx)).divide(by).add(BigInteger.valueOf(p.x)));
      long y = coordinate(big.multiply(BigInteger.valueOf(fy)).divide(by).add(BigInteger.valueOf(p.y)));
      p.x = x;
      p.y = y;
      p.tx |= fx != 0;
      p.ty |= fy != 0;
    }

    /** Whether the program is to go on. */
    void row(List<int[]> row, int depth) {
      int at = 0;
      while (at < row.size()) {
        need(steps < 400, 'b');
        steps++;
        int kind = row.get(at)[0];
        int n = row.get(at)[1];
        int next = at + 1;
        if (kind == 'e') {
          return;
        } else if (kind == 'j' || kind == 'c') {
          if (kind == 'j' || pop() != 0) {
            next = at + n;
            need(in(next, 0, row.size()), 'j');
          }
        } else if (kind == 'C') {
          need(n < functions.size(), 'r');
          need(depth < 6, 'b');
          row(functions.get(n), depth + 1);
        } else {
          step((char) kind, n);
        }
        at = next;
      }
    }

    void step(char kind, int n) {
      if ("+-*/<=".indexOf(kind) >= 0) {
        BigInteger b = BigInteger.valueOf(pop());
        BigInteger a = BigInteger.valueOf(pop());
        BigInteger sixty4 = BigInteger.valueOf(64);
        if (kind == '/') {
          need(b.signum() != 0, 'z');
        }
        push(kind == '+' ? a.add(b)
            : kind == '-' ? a.subtract(b)
            : kind == '*' ? a.multiply(b).add(BigInteger.valueOf(32)).shiftRight(6)
            : kind == '/' ? a.multiply(sixty4).divide(b)
            : kind == '<' ? BigInteger.valueOf(a.compareTo(b) < 0 ? 1 : 0)
            : BigInteger.valueOf(a.equals(b) ? 1 : 0));
      } else if (kind == 'p') {
        push(n);
      } else if (kind == 'd') {
        int top = pop();
        push(top);
        push(top);
      } else if (kind == 'x') {
        int b = pop();
        int a = pop();
        push(b);
        push(a);
      } else if (kind == 'o') {
        pop();
      } else if (kind == '~') {
        push(BigInteger.valueOf(pop()).negate());
      } else if (kind == 'M' || kind == 'F') {
        int k = pop();
        need(in(k, 0, 3), 'r');
        if (kind == 'M') {
          m = k;
        } else {
          f = k;
        }
      } else if (kind == 'Z') {
        int k = pop();
        need(in(k, 0, 1), 'r');
        zone = k == 0 ? still : glyph;
      } else if (kind == 'R') {
        rounding = n;
      } else if (kind == 'S') {
        int p = pop();
        point(p);
        ref[n] = p;
      } else if (kind == 'w' || kind == 's') {
        int v = pop();
        int place = pop();
        need(in(place, 0, kind == 'w' ? table.size() - 1 : 7), 'r');
        if (kind == 'w') {
          table.set(place, v);
        } else {
          store[place] = v;
        }
      } else if (kind == 'v' || kind == 'q') {
        int place = pop();
        need(in(place, 0, kind == 'v' ? table.size() - 1 : 7), 'r');
        push(kind == 'v' ? table.get(place) : store[place]);
      } else if (kind == 'H') {
        push(size);
      } else {
        points(kind);
      }
    }

    void points(char kind) {
      if (kind == 'i') {
        int place = pop();
        int number = pop();
        need(in(place, 0, table.size() - 1), 'r');
        Pt p = point(number);
        long t = table.get(place);
        if (zone == still) {
          BigInteger big = BigInteger.valueOf(t);
          p.x = coordinate(big.multiply(BigInteger.valueOf(vectors[m][0])).shiftRight(14));
          p.y = coordinate(big.multiply(BigInteger.valueOf(vectors[m][1])).shiftRight(14));
          p.fx = p.x;
          p.fy = p.y;
        }
        long c = now(p);
        move(p, round(Math.abs(t - c) > 68 ? c : t) - c);
        ref[0] = number;
        ref[1] = number;
        return;
      }
      if (kind == 'D') {
        int d = pop();
        int s = pop();
        Pt p = point(pop());
        if (s == size) {
          move(p, d);
        }
        return;
      }
      if (kind == 'I') {
        int way = pop();
        need(in(way, 0, 1), 'r');
        spreadWay(way);
        return;
      }
      int number = pop();
      Pt p = point(number);
      if (kind == 'G') {
        push(now(p));
      } else if (kind == 'm') {
        move(p, round(now(p)) - now(p));
        ref[0] = number;
        ref[1] = number;
      } else if (kind == 'r') {
        Pt zero = point(ref[0]);
        long e = first(p) - first(zero);
        e = e < 0 ? Math.min(-round(-e), -64) : Math.max(round(e), 64);
        move(p, now(zero) + e - now(p));
        ref[1] = ref[0];
        ref[2] = number;
      } else if (kind == 'k') {
        Pt zero = point(ref[0]);
        move(p, now(zero) - first(zero));
      } else if (kind == 'l') {
        move(p, now(point(ref[0])) - now(p));
      } else {
        Pt one = point(ref[1]);
        Pt two = point(ref[2]);
        long o = first(p);
        long a = first(one);
        long b = first(two);
        long c = now(one);
        long e = now(two);
        move(p, a == b ? c - a : c + (o - a) * (e - c) / (b - a) - now(p));
      }
    }

    void spreadWay(int way) {
      Set<Integer> contours = new TreeSet<>();
      for (Pt p : glyph) {
        contours.add(p.contour);
      }
      contours.remove(-1);
      for (int contour : contours) {
        List<Pt> ring = new ArrayList<>();
        for (Pt p : glyph) {
          if (p.contour == contour) {
            ring.add(p);
          }
        }
        boolean any = false;
        for (Pt p : ring) {
          any |= way == 0 ? p.tx : p.ty;
        }
        for (int i = 0; any && i < ring.size(); i++) {
          Pt p = ring.get(i);
          if (way == 0 ? p.tx : p.ty) {
            continue;
          }
          Pt ahead = p;
          while (!(way == 0 ? ahead.tx : ahead.ty)) {
            ahead = ring.get(Math.floorMod(ring.indexOf(ahead) - 1, ring.size()));
          }
          Pt next = p;
          while (!(way == 0 ? next.tx : next.ty)) {
            next = ring.get(Math.floorMod(ring.indexOf(next) + 1, ring.size()));
          }
          long by = ahead == next ? shift(ahead, way)
              : spreading(way == 0 ? p.fx : p.fy, way == 0 ? ahead.fx : ahead.fy,
                  way == 0 ? next.fx : next.fy, shift(ahead, way), shift(next, way));
          if (way == 0) {
            p.x = coordinate(BigInteger.valueOf(p.x + by));
          } else {
            p.y = coordinate(BigInteger.valueOf(p.y + by));
          }
        }
      }
    }

    long shift(Pt p, int way) {
      return way == 0 ? p.x - p.fx : p.y - p.fy;
    }
  }

  /** The lines of a glyph, in 16ths of 64ths: x, y, x, y. */
  List<long[]> lines(List<Pt> points) {
    Map<Integer, List<long[]>> contours = new TreeMap<>();
    for (Pt p : points) {
      if (p.contour >= 0) {
        contours.computeIfAbsent(p.contour, k -> new ArrayList<>())
            .add(new long[] {p.x, p.y, p.on ? 1 : 0});
      }
    }
    List<long[]> lines = new ArrayList<>();
    for (List<long[]> contour : contours.values()) {
      if (contour.size() >= 2) {
        contourLines(contour, lines);
      }
    }
    return lines;
  }

  static void contourLines(List<long[]> contour, List<long[]> lines) {
    List<long[]> whole = new ArrayList<>();
    for (int i = 0; i < contour.size(); i++) {
      long[] a = contour.get(i);
      long[] b = contour.get((i + 1) % contour.size());
      whole.add(a);
      if (a[2] == 0 && b[2] == 0) {
        whole.add(new long[] {fl(a[0] + b[0], 2), fl(a[1] + b[1], 2), 1});
      }
    }
    while (whole.get(0)[2] == 0) {
      Collections.rotate(whole, 1);
    }
    whole.add(whole.get(0));
    for (int i = 0; i + 1 < whole.size();) {
      long[] a = whole.get(i);
      long[] b = whole.get(i + 1);
      if (b[2] == 1) {
        lines.add(new long[] {16 * a[0], 16 * a[1], 16 * b[0], 16 * b[1]});
        i++;
        continue;
      }
      long[] c = whole.get(i + 2);
      long[] last = {16 * a[0], 16 * a[1]};
      for (int q = 1; q <= 4; q++) {
        long u = 4 - q;
        long[] next = new long[2];
        for (int k = 0; k < 2; k++) {
          next[k] = u * u * a[k] + 2 * u * q * b[k] + (long) q * q * c[k];
        }
        lines.add(new long[] {last[0], last[1], next[0], next[1]});
        last = next;
      }
      i += 2;
    }
  }

  static long centre(int k) {
    return 16 * (64L * (k - 8) + 32);
  }

  static boolean[][] winding(List<long[]> lines) {
    boolean[][] set = new boolean[48][48];
    for (int y = 0; y < 48; y++) {
      for (int x = 0; x < 48; x++) {
        int sum = 0;
        for (long[] l : lines) {
          boolean a = l[1] <= centre(y);
          boolean b = l[3] <= centre(y);
          if (a == b) {
            continue;
          }
          // From the lower end to the higher one, a centre on the left has a turn to the left.
          long[] lo = a ? new long[] {l[0], l[1]} : new long[] {l[2], l[3]};
          long[] hi = a ? new long[] {l[2], l[3]} : new long[] {l[0], l[1]};
          long turn = (hi[0] - lo[0]) * (centre(y) - lo[1]) - (centre(x) - lo[0]) * (hi[1] - lo[1]);
          if (turn > 0) {
            sum += a ? 1 : -1;
          }
        }
        set[x][y] = sum != 0;
      }
    }
    return set;
  }

  static void dropouts(List<long[]> lines, boolean[][] set, boolean rows) {
    int along = rows ? 0 : 1;
    int across = 1 - along;
    for (int k = 0; k < 48; k++) {
      TreeMap<Long, Integer> at = new TreeMap<>();
      long h = centre(k);
      for (long[] l : lines) {
        boolean a = l[across] <= h;
        boolean b = l[2 + across] <= h;
        if (a != b) {
          BigInteger up = BigInteger.valueOf(h - l[across])
              .multiply(BigInteger.valueOf(l[2 + along] - l[along]));
          BigInteger down = BigInteger.valueOf(l[2 + across] - l[across]);
          BigInteger[] parts = up.divideAndRemainder(down);
          long floor = parts[0].longValueExact();
          if (parts[1].signum() * down.signum() < 0) {
            floor--;
          }
          at.merge(l[along] + floor, a ? 1 : -1, Integer::sum);
        }
      }
      int sum = 0;
      long p = 0;
      for (Map.Entry<Long, Integer> e : at.entrySet()) {
        int before = sum;
        sum += e.getValue();
        if (before == 0 && sum != 0) {
          p = e.getKey();
        }
        if (before != 0 && sum == 0) {
          dropout(p, e.getKey(), k, set, rows);
        }
      }
    }
  }

  static void dropout(long p, long q, int k, boolean[][] set, boolean rows) {
    int best = -1;
    long least = Long.MAX_VALUE;
    for (int i = 0; i < 48; i++) {
      if (centre(i) >= p && centre(i) < q) {
        return;
      }
      long far = Math.abs(2 * centre(i) - p - q);
      if (far < least) {
        least = far;
        best = i;
      }
    }
    if (least <= 2048) {
      set[rows ? best : k][rows ? k : best] = true;
    }
  }

  boolean[][] draw(int glyph) {
    List<long[]> lines = lines(shape(glyph, true));
    boolean[][] set = winding(lines);
    if (rule > 0) {
      dropouts(lines, set, true);
    }
    if (rule > 1) {
      dropouts(lines, set, false);
    }
    return set;
  }

  boolean[][] ask(int glyph) {
    String key = Arrays.asList(glyph, size, axis[0], axis[1], hinting, rule).toString();
    boolean[][] got = cache.remove(key);
    if (got != null) {
      hits++;
    } else {
      got = draw(glyph);
      drawings++;
      if (cache.size() == 4) {
        cache.remove(cache.keySet().iterator().next());
      }
    }
    cache.put(key, got);
    return got;
  }

  int pointX(int glyph, int point, boolean isHinted) {
    index(in(point, 0, points(glyph) - 1));
    drawable(glyph);
    return (int) shape(glyph, isHinted).get(point).x;
  }

  int pointY(int glyph, int point, boolean isHinted) {
    index(in(point, 0, points(glyph) - 1));
    drawable(glyph);
    return (int) shape(glyph, isHinted).get(point).y;
  }

  char fault(int glyph) {
    drawable(glyph);
    run(glyph);
    return lastFault;
  }

  boolean isExact(int glyph) {
    drawable(glyph);
    run(glyph);
    return lastPush;
  }

  int steps(int glyph) {
    drawable(glyph);
    run(glyph);
    return lastSteps;
  }

  boolean pixel(int glyph, int x, int y) {
    at(glyph);
    index(in(x, 0, 47) && in(y, 0, 47));
    drawable(glyph);
    return ask(glyph)[x][y];
  }

  int pixels(int glyph) {
    drawable(glyph);
    int sum = 0;
    for (boolean[] column : ask(glyph)) {
      for (boolean is : column) {
        sum += is ? 1 : 0;
      }
    }
    return sum;
  }

  int rowOf(int glyph, int y) {
    at(glyph);
    index(in(y, 0, 47));
    drawable(glyph);
    boolean[][] set = ask(glyph);
    int sum = 0;
    for (int x = 47; x >= 0; x--) {
      if (set[x][y]) {
        sum = sum / 100 * 100 + 100 + x;
      }
    }
    return sum;
  }

  boolean isWound(int glyph) {
    drawable(glyph);
    return true;
  }

  int advance(int glyph, boolean isHinted) {
    drawable(glyph);
    List<Pt> all = shape(glyph, isHinted);
    long d = all.get(all.size() - 1).x - all.get(all.size() - 2).x;
    return (int) (isHinted ? fl(d + 32, 64) * 64 : d);
  }

  boolean setClass(int glyph, int left, int right) {
    Gl g = at(glyph);
    argument(in(left, 0, 4) && in(right, 0, 4));
    boolean is = g.left != left || g.right != right;
    g.left = left;
    g.right = right;
    return is;
  }

  int kern(int right, int left, int units) {
    argument(in(right, 0, 4) && in(left, 0, 4) && in(units, -1000, 1000));
    int before = kern[right][left];
    kern[right][left] = units;
    return before;
  }

  int type(int glyph) {
    at(glyph);
    state(text.size() < 20);
    text.add(glyph);
    return text.size();
  }

  int clearText() {
    int before = text.size();
    text.clear();
    return before;
  }

  int width() {
    int sum = 0;
    for (int i = 0; i < text.size(); i++) {
      sum += advance(text.get(i), true);
      if (i > 0) {
        Gl before = glyphs.get(text.get(i - 1));
        sum += scaled(kern[before.right][glyphs.get(text.get(i)).left]);
      }
    }
    return sum;
  }

  int addColour(int glyph, int other, int colour) {
    Gl g = at(glyph);
    at(other);
    argument(in(colour, 1, 9));
    state(g.layers.size() < 4);
    g.layers.add(new int[] {other, colour});
    return g.layers.size();
  }

  int colourAt(int glyph, int x, int y) {
    Gl g = at(glyph);
    index(in(x, 0, 47) && in(y, 0, 47));
    for (int i = g.layers.size() - 1; i >= 0; i--) {
      drawable(g.layers.get(i)[0]);
      if (draw(g.layers.get(i)[0])[x][y]) {
        break;
      }
    }
    for (int i = g.layers.size() - 1; i >= 0; i--) {
      if (ask(g.layers.get(i)[0])[x][y]) {
        return g.layers.get(i)[1];
      }
    }
    return 0;
  }

  boolean keep(int glyph, boolean is) {
    Gl g = at(glyph);
    boolean before = g.kept;
    g.kept = is;
    return before;
  }

  void reach(int glyph, Set<Integer> into) {
    if (into.add(glyph)) {
      for (int[] part : glyphs.get(glyph).parts) {
        reach(part[0], into);
      }
      for (int[] layer : glyphs.get(glyph).layers) {
        reach(layer[0], into);
      }
    }
  }

  TreeSet<Integer> subsetGlyphs() {
    TreeSet<Integer> all = new TreeSet<>();
    for (int i = 0; i < glyphs.size(); i++) {
      if (glyphs.get(i).kept) {
        reach(i, all);
      }
    }
    return all;
  }

  int subset() {
    return subsetGlyphs().size();
  }

  int numberOf(int glyph) {
    at(glyph);
    TreeSet<Integer> all = subsetGlyphs();
    if (!all.contains(glyph)) {
      throw new NoSuchElementException();
    }
    return all.headSet(glyph).size();
  }

  int written() {
    int sum = 4;
    for (int i : subsetGlyphs()) {
      Gl g = glyphs.get(i);
      sum += 3 + 4 * g.own.size() + 5 * g.parts.size() + 4 * g.regions.size();
      for (Reg r : g.regions) {
        sum += 4 * r.deltas.size() + (r.advance == null ? 0 : 4);
      }
      sum += 2 * g.program.size() + 2 * g.layers.size();
    }
    for (List<int[]> f : functions) {
      sum += 1 + 2 * f.size();
    }
    return sum + numbers.size();
  }

  boolean isSame(int glyph) {
    numberOf(glyph);
    drawable(glyph);
    return true;
  }

  float inkShare(int glyph) {
    return (float) pixels(glyph) / 2304f;
  }

  double meanAdvance() {
    if (text.isEmpty()) {
      throw new ArithmeticException();
    }
    int sum = 0;
    for (int glyph : text) {
      sum += advance(glyph, true);
    }
    return (double) sum / (double) text.size();
  }
}
