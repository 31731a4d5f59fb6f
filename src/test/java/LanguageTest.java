import java.io.IOException;
import java.lang.reflect.Field;
import java.lang.reflect.Method;
import java.lang.reflect.Modifier;
import java.nio.file.Files;
import java.nio.file.Path;
import java.util.Set;
import java.util.TreeSet;
import java.util.regex.Matcher;
import java.util.regex.Pattern;

/** Looks in the text and the compiled class for what the language's rules leave out. */
public final class LanguageTest {
  private static final String[] RULED_OUT = {
    "\\btry\\b", "\\bcatch\\b", "\\bfinally\\b", "\\bsynchronized\\b", "\\bassert\\b", "->", "::",
    "\\bpackage\\b", "\\bMath\\.\\w+Exact\\b", "\\bSystem\\.(?!arraycopy)\\w+", "\\bThread\\b",
    "\\bRandom\\b", "\\.equals\\(", "\\.hashCode\\(", "\\btoString\\b", "\\bObject\\b",
    "\\bArrays\\.(?!copyOf|copyOfRange|fill)\\w+", "\\bdefault ->", "\\bvar\\b", "\\bstatic \\{",
    "\\bvolatile\\b", "\\btransient\\b", "\\bnative\\b", "\\bvoid finalize\\b", "@"
  };

  private LanguageTest() {
  }

  public static void main(String[] args) throws IOException {
    String text = Files.readString(Path.of("src/main/java/HintForge.java"));
    String bare = text.replaceAll("(?s)/\\*.*?\\*/", "").replaceAll("//[^\n]*", "");
    for (String ruledOut : RULED_OUT) {
      Matcher found = Pattern.compile(ruledOut).matcher(bare);
      Check.same("the text has " + ruledOut, found.find(), false);
    }
    Check.same("signs from 1 to 127", text.chars().allMatch(c -> c >= 1 && c <= 127), true);
    imports(bare);
    face();
    classes();
    lengths(text);
    Check.end("LanguageTest");
  }

  private static void imports(String bare) {
    Set<String> found = new TreeSet<>();
    Matcher line = Pattern.compile("(?m)^import ([^;]+);").matcher(bare);
    while (line.find()) {
      found.add(line.group(1));
    }
    Check.same("imports", found.toString(),
        "[java.util.Arrays, java.util.NoSuchElementException]");
  }

  private static void face() {
    Set<String> open = new TreeSet<>();
    for (Method method : HintForge.class.getDeclaredMethods()) {
      boolean isPrivate = Modifier.isPrivate(method.getModifiers());
      Check.same(method + " is public or private", isPrivate, !Modifier.isPublic(method.getModifiers()));
      if (!isPrivate) {
        open.add(method.getName());
      }
    }
    Check.same("methods of the face", open.size(), 43);
    for (Class<?> inside : allClasses()) {
      for (Method method : inside.getDeclaredMethods()) {
        boolean isOwn = inside != HintForge.class || Modifier.isPrivate(method.getModifiers());
        Check.same(method + " bears a public name", isOwn && open.contains(method.getName()), false);
      }
    }
    for (Field field : HintForge.class.getDeclaredFields()) {
      Check.same(field + " is private", Modifier.isPrivate(field.getModifiers()), true);
    }
  }

  private static Set<Class<?>> allClasses() {
    Set<Class<?>> all = new java.util.LinkedHashSet<>();
    all.add(HintForge.class);
    for (Class<?> inside : HintForge.class.getDeclaredClasses()) {
      all.add(inside);
    }
    return all;
  }

  private static void classes() {
    Check.same("at most twelve classes", allClasses().size() <= 12, true);
    for (Class<?> inside : allClasses()) {
      int fields = 0;
      for (Field field : inside.getDeclaredFields()) {
        boolean isStatic = Modifier.isStatic(field.getModifiers());
        fields += isStatic ? 0 : 1;
        boolean isConstant = !isStatic || Modifier.isFinal(field.getModifiers());
        Check.same(field + " is final, if static", isConstant, true);
      }
      Check.same(inside + " has few fields", fields <= 20, true);
      for (Method method : inside.getDeclaredMethods()) {
        Check.same(method + " has few parameters", method.getParameterCount() <= 7, true);
      }
    }
  }

  private static void lengths(String text) {
    int from = 0;
    String[] lines = text.split("\n", -1);
    for (int i = 0; i < lines.length; i++) {
      if (lines[i].matches(" {2,4}[^ /*].*\\{")) {
        from = i;
      }
      boolean isEnd = lines[i].equals("  }") || lines[i].equals("    }");
      Check.same("lines of " + lines[from].trim(), isEnd && i - from > 60 && !lines[from].contains("class"), false);
      Check.same("length of line " + (i + 1), lines[i].length() > 100, false);
    }
  }
}
