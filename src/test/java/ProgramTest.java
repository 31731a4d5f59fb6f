/** Promises 12 to 18: what is told of programs, functions, the table, hinting and the rule. */
public final class ProgramTest {
  private static final String KINDS = "pdxo+-*/<=~MFZRSmirklbIDwvsqGHjcCe";

  private ProgramTest() {
  }

  public static void main(String[] args) {
    addInstruction();
    clearProgram();
    addFunction();
    extendFunction();
    addNumber();
    setHinting();
    setRule();
    Check.end("ProgramTest");
  }

  private static void addInstruction() {
    HintForge font = new HintForge();
    Check.raises("no glyph", Check.INDEX, () -> font.addInstruction(0, '?', 0));
    font.addGlyph(100);
    for (char kind = 0; kind < 300; kind++) {
      char told = kind;
      Object due = KINDS.indexOf(kind) >= 0 ? (Object) 1 : "throws." + Check.ARGUMENT;
      Check.same("kind " + (int) kind, Check.answerOf(() -> font.addInstruction(0, told, 0)), due);
      font.clearProgram(0);
    }
    limits(font, 'p', -99999, 99999);
    limits(font, 'R', 0, 5);
    limits(font, 'S', 0, 2);
    limits(font, 'j', -60, 60);
    limits(font, 'c', -60, 60);
    limits(font, 'C', 0, 3);
    font.clearProgram(0);
    Check.same("no meaning", font.addInstruction(0, 'm', 1000000), 1);
    for (int i = 2; i <= 60; i++) {
      Check.same("instruction", font.addInstruction(0, 'H', -1000000), i);
    }
    Check.raises("61st", Check.STATE, () -> font.addInstruction(0, 'H', 0));
    Check.raises("61st of no kind", Check.ARGUMENT, () -> font.addInstruction(0, 'h', 0));
  }

  private static void limits(HintForge font, char kind, int least, int greatest) {
    font.clearProgram(0);
    Check.same("least of " + kind, font.addInstruction(0, kind, least), 1);
    Check.same("greatest of " + kind, font.addInstruction(0, kind, greatest), 2);
    Check.raises("below " + kind, Check.ARGUMENT, () -> font.addInstruction(0, kind, least - 1));
    Check.raises("above " + kind, Check.ARGUMENT, () -> font.addInstruction(0, kind, greatest + 1));
    Check.same("none was added", font.clearProgram(0), 2);
  }

  private static void clearProgram() {
    HintForge font = new HintForge();
    Check.raises("no glyph", Check.INDEX, () -> font.clearProgram(0));
    font.addGlyph(100);
    Check.same("none", font.clearProgram(0), 0);
    Fonts.program(font, 0, "o o");
    Check.same("a fault", font.fault(0), 'u');
    Check.same("two", font.clearProgram(0), 2);
    Check.same("no fault", font.fault(0), '-');
    Check.same("no steps", font.steps(0), 0);
  }

  private static void addFunction() {
    HintForge font = new HintForge();
    for (int i = 0; i < 4; i++) {
      Check.same("function", font.addFunction(), i);
    }
    Check.raises("fifth function", Check.STATE, () -> font.addFunction());
  }

  private static void extendFunction() {
    HintForge font = new HintForge();
    Check.raises("no function", Check.INDEX, () -> font.extendFunction(0, '?', 0));
    font.addFunction();
    Check.raises("no function 1", Check.INDEX, () -> font.extendFunction(1, 'p', 0));
    Check.raises("no kind", Check.ARGUMENT, () -> font.extendFunction(0, '?', 0));
    Check.raises("n", Check.ARGUMENT, () -> font.extendFunction(0, 'C', 4));
    for (int i = 1; i <= 30; i++) {
      Check.same("instruction", font.extendFunction(0, 'H', 0), i);
    }
    Check.raises("31st", Check.STATE, () -> font.extendFunction(0, 'H', 0));
    Check.raises("31st of no kind", Check.ARGUMENT, () -> font.extendFunction(0, 'h', 0));
  }

  private static void addNumber() {
    HintForge font = new HintForge();
    Check.raises("2001", Check.ARGUMENT, () -> font.addNumber(2001));
    Check.raises("-2001", Check.ARGUMENT, () -> font.addNumber(-2001));
    for (int i = 0; i < 16; i++) {
      Check.same("place", font.addNumber(i % 2 == 0 ? 2000 : -2000), i);
    }
    Check.raises("17th", Check.STATE, () -> font.addNumber(0));
    Check.raises("17th out of range", Check.ARGUMENT, () -> font.addNumber(2001));
  }

  private static void setHinting() {
    HintForge font = Fonts.atSize25();
    Fonts.glyph(font, 100, 25, 0);
    Fonts.program(font, 0, "p0 m");
    Check.same("hinted", font.pointX(0, 0, true), 64);
    Check.same("scaled", font.pointX(0, 0, false), 40);
    Check.same("was on", font.setHinting(false), true);
    Check.same("off", font.pointX(0, 0, true), 40);
    Check.same("steps while off", font.steps(0), 2);
    Fonts.program(font, 0, "o");
    Check.same("fault while off", font.fault(0), 'u');
    Check.same("was off", font.setHinting(false), false);
    Check.same("was off still", font.setHinting(true), false);
  }

  private static void setRule() {
    HintForge font = new HintForge();
    Check.raises("rule 3", Check.ARGUMENT, () -> font.setRule(3));
    Check.raises("rule -1", Check.ARGUMENT, () -> font.setRule(-1));
    Check.same("0 at first", font.setRule(1), 0);
    Check.same("1", font.setRule(2), 1);
    Check.same("2", font.setRule(0), 2);
  }
}
