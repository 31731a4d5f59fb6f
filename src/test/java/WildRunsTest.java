import java.lang.reflect.InvocationTargetException;
import java.lang.reflect.Method;
import java.util.Arrays;
import java.util.Comparator;
import java.util.Random;

/** Any arguments in any state: a call throws just what its face tells, and never by itself. */
public final class WildRunsTest {
  private static final int[] WILD = {
    Integer.MIN_VALUE, -2001, -1000, -101, -2, -1, 0, 1, 2, 3, 5, 12, 40, 47, 48, 64, 79, 80, 128,
    1000, 2000, 2001, Integer.MAX_VALUE
  };

  private final Random random;
  private final HintForge forge = new HintForge();

  private WildRunsTest(long seed) {
    random = new Random(seed);
  }

  public static void main(String[] args) {
    Method[] face = Arrays.stream(HintForge.class.getDeclaredMethods())
        .filter(m -> java.lang.reflect.Modifier.isPublic(m.getModifiers()))
        .sorted(Comparator.comparing(Method::getName))
        .toArray(Method[]::new);
    for (int seed = 0; seed < 300; seed++) {
      WildRunsTest run = new WildRunsTest(seed);
      for (int i = 0; i < 512; i++) {
        run.call(face[run.random.nextInt(face.length)]);
        if (i % 8 == 0) {
          run.grow();
        }
      }
    }
    Check.end("WildRunsTest");
  }

  /** Deep parts of great scale, so that coordinates get as large as they may. */
  private void grow() {
    Check.answerOf(() -> forge.addGlyph(2000));
    int glyph = random.nextInt(12);
    for (int i = 0; i < 4; i++) {
      int x = random.nextInt(4001) - 2000;
      int y = random.nextInt(4001) - 2000;
      Check.answerOf(() -> forge.addPoint(glyph, x, y, random.nextBoolean()));
    }
    Check.answerOf(() -> forge.addPart(glyph, glyph - 1, 2000, -2000, 128));
    Check.answerOf(() -> forge.setSize(32));
  }

  private Object argument(Class<?> type) {
    if (type == boolean.class) {
      return random.nextBoolean();
    }
    if (type == char.class) {
      String kinds = "pdxo+-*/<=~MFZRSmirklbIDwvsqGHjcCe";
      boolean isKind = random.nextInt(20) != 0;
      return isKind ? kinds.charAt(random.nextInt(kinds.length())) : (char) random.nextInt(65536);
    }
    return random.nextInt(3) == 0 ? WILD[random.nextInt(WILD.length)] : random.nextInt(14);
  }

  private void call(Method method) {
    Object[] given = new Object[method.getParameterCount()];
    for (int i = 0; i < given.length; i++) {
      given[i] = argument(method.getParameterTypes()[i]);
    }
    try {
      method.invoke(forge, given);
    } catch (InvocationTargetException e) {
      Class<?> thrown = e.getCause().getClass();
      boolean isTold = Arrays.asList(method.getExceptionTypes()).contains(thrown);
      Check.same(method.getName() + Arrays.toString(given) + " may throw " + e.getCause(), isTold, true);
    } catch (IllegalAccessException e) {
      Check.same(method.getName() + " is public", false, true);
    }
  }
}
