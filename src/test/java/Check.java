/** What the tests compare with; counts what is wrong. */
final class Check {
  interface Call {
    Object answer();
  }

  static final String INDEX = "IndexOutOfBoundsException";
  static final String ARGUMENT = "IllegalArgumentException";
  static final String STATE = "IllegalStateException";
  static final String UNSUPPORTED = "UnsupportedOperationException";
  static final String ELEMENT = "NoSuchElementException";
  static final String ARITHMETIC = "ArithmeticException";

  private static int wrong = 0;
  private static int made = 0;

  private Check() {
  }

  static void same(String what, Object got, Object due) {
    made++;
    if (!due.equals(got)) {
      wrong++;
      System.out.println(what + " answered " + got + ", due is " + due);
    }
  }

  static void raises(String what, String due, Call call) {
    same(what, answerOf(call), "throws." + due);
  }

  static Object answerOf(Call call) {
    try {
      return call.answer();
    } catch (RuntimeException e) {
      return "throws." + e.getClass().getSimpleName();
    }
  }

  static void end(String name) {
    System.out.println(name + ": " + made + " checks, " + wrong + " wrong");
    if (wrong != 0) {
      System.exit(1);
    }
  }
}
