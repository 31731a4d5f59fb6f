/** Which settings the cache tells apart, which one goes if there are 4, and what its counts are. */
public final class CacheEdgesTest {
  private CacheEdgesTest() {
  }

  public static void main(String[] args) {
    settingsApart(new int[][] {{0, 1}, {5, 6}, {0, 1}, {0, 1}, {0, 1}, {0, 1, 2}});
    settingsApart(new int[][] {{0, 11}, {4, 32}, {-100, 100}, {-100, 100}, {0, 1}, {0, 1, 2}});
    settingsApart(new int[][] {{0, 3}, {8, 9, 16}, {-1, 1, 64}, {-1, 1}, {0, 1}, {1}});
    fourAreKept();
    eachAskCounts();
    layersAsk();
    emptiedCountsStay();
    sameSettingsAgain();
    Check.end("CacheEdgesTest");
  }

  private static HintForge twelve() {
    HintForge font = new HintForge();
    for (int i = 0; i < 12; i++) {
      font.addGlyph(0);
    }
    return font;
  }

  private static String counts(HintForge font) {
    return font.hits() + " " + font.drawings();
  }

  private static void ask(HintForge font, int[] setting) {
    font.setSize(setting[1]);
    font.setAxis(0, setting[2]);
    font.setAxis(1, setting[3]);
    font.setHinting(setting[4] == 1);
    font.setRule(setting[5]);
    font.pixels(setting[0]);
  }

  private static int[] setting(int[][] choices, int number) {
    int[] setting = new int[choices.length];
    int rest = number;
    for (int i = 0; i < choices.length; i++) {
      setting[i] = choices[i][rest % choices[i].length];
      rest /= choices[i].length;
    }
    return setting;
  }

  /** Of each two settings, glyph, size, axes, hinting and rule, both are drawn, then both are hits. */
  private static void settingsApart(int[][] choices) {
    int all = 1;
    for (int[] choice : choices) {
      all *= choice.length;
    }
    for (int first = 0; first < all; first++) {
      HintForge font = twelve();
      int made = 12;
      int before = 0;
      for (int second = first + 1; second < all; second++) {
        if (made > 480) {
          font = twelve();
          made = 12;
          before = 0;
        }
        font.clearProgram(0);
        ask(font, setting(choices, first));
        ask(font, setting(choices, second));
        boolean isApart = font.drawings() == before + 2;
        ask(font, setting(choices, first));
        isApart &= font.drawings() == before + 2;
        made += 21;
        before += 2;
        if (!isApart) {
          Check.same("apart: " + first + " and " + second, false, true);
        }
      }
    }
    Check.same("settings were told apart", all > 1, true);
  }

  private static void fourAreKept() {
    // In every order of asking four again, the one asked for the longest ago goes.
    for (int order = 0; order < 256; order++) {
      int[] asked = {order & 3, order >> 2 & 3, order >> 4 & 3, order >> 6 & 3};
      HintForge font = twelve();
      int[] last = new int[4];
      for (int i = 0; i < 4; i++) {
        font.pixels(i);
        last[i] = i;
      }
      for (int i = 0; i < 4; i++) {
        font.pixels(asked[i]);
        last[asked[i]] = 4 + i;
      }
      Check.same("four hits", counts(font), "4 4");
      font.pixels(4);
      Check.same("a fifth one", counts(font), "4 5");
      int oldest = 0;
      for (int i = 1; i < 4; i++) {
        oldest = last[i] < last[oldest] ? i : oldest;
      }
      for (int i = 0; i < 4; i++) {
        if (i != oldest) {
          font.pixels(i);
        }
      }
      Check.same("three are kept, order " + order, counts(font), "7 5");
      font.pixels(oldest);
      Check.same("one went, order " + order, counts(font), "7 6");
    }
  }

  private static void eachAskCounts() {
    HintForge font = twelve();
    for (int i = 0; i < 5; i++) {
      font.pixel(0, i, 0);
    }
    Check.same("one drawing, four hits", counts(font), "4 1");
    for (int i = 1; i < 5; i++) {
      font.rowOf(i, 0);
    }
    Check.same("four more", counts(font), "4 5");
    font.inkShare(0);
    Check.same("the first one went", counts(font), "4 6");
    font.inkShare(1);
    Check.same("then the second one", counts(font), "4 7");
    font.inkShare(4);
    Check.same("the last one is kept", counts(font), "5 7");
    for (int i = 0; i < 12; i++) {
      font.pixels(i);
    }
    // 0 and 1 are kept; 2 makes 3 go, 3 makes 4 go, and so on.
    Check.same("all twelve", counts(font), "7 17");
  }

  private static void layersAsk() {
    HintForge font = Fonts.atSize25();
    Fonts.box(font, 0, 0, 40, 40);
    font.addGlyph(0);
    font.addGlyph(0);
    Check.same("no layer asks nothing", font.colourAt(0, 8, 8) + counts(font), "00 0");
    font.addColour(0, 1, 1);
    font.addColour(0, 0, 2);
    font.addColour(0, 1, 3);
    font.addColour(0, 2, 4);
    font.colourAt(0, 0, 0);
    // From the last one: 2, 1, 0, and 1 again.
    Check.same("four layers of three glyphs", counts(font), "1 3");
    font.colourAt(0, 8, 8);
    Check.same("up to the one that has it", counts(font), "4 3");
    font.pixels(0);
    Check.same("the same cache", counts(font), "5 3");
    font.addGlyph(0);
    font.addGlyph(0);
    font.pixels(3);
    font.pixels(4);
    Check.same("two more", counts(font), "5 5");
    // 2 was asked for ahead of 1 and 0.
    font.pixels(1);
    font.pixels(0);
    Check.same("1 and 0 are kept", counts(font), "7 5");
    font.pixels(2);
    Check.same("2 went", counts(font), "7 6");
  }

  private static void emptiedCountsStay() {
    HintForge font = twelve();
    for (int i = 0; i < 4; i++) {
      font.pixels(i);
      font.pixels(i);
    }
    font.addNumber(0);
    Check.same("counts stay", counts(font), "4 4");
    for (int i = 0; i < 4; i++) {
      font.pixels(i);
    }
    Check.same("all four went", counts(font), "4 8");
    for (int i = 0; i < 4; i++) {
      font.pixels(i);
    }
    Check.same("all four are kept again", counts(font), "8 8");
  }

  private static void sameSettingsAgain() {
    HintForge font = Fonts.atSize25();
    Fonts.box(font, 0, 0, 40, 40);
    Check.same("drawn", font.pixels(0), 1);
    font.setSize(32);
    Check.same("larger", font.pixels(0), 1);
    font.setSize(12);
    Check.same("smaller", font.pixels(0), 0);
    font.setSize(25);
    Check.same("as at first", font.pixels(0), 1);
    Check.same("a hit", counts(font), "1 3");
    font.movePoint(0, 2, 80, 40);
    font.movePoint(0, 3, 80, 0);
    Check.same("not what was drawn ahead", font.pixels(0), 2);
    Check.same("drawn anew", counts(font), "1 4");
  }
}
