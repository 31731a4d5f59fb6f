import java.io.IOException;
import java.lang.reflect.Array;
import java.lang.reflect.Field;
import java.lang.reflect.Method;
import java.lang.reflect.Modifier;
import java.nio.file.Files;
import java.nio.file.Path;
import java.util.ArrayDeque;
import java.util.ArrayList;
import java.util.IdentityHashMap;
import java.util.List;
import java.util.Map;
import java.util.Set;
import java.util.TreeMap;
import java.util.TreeSet;
import java.util.regex.Matcher;
import java.util.regex.Pattern;

/** Looks in the text and the compiled class for what the language's rules leave out. */
public final class LanguageTest {
  private static final String[] RULED_OUT = {
    "\\btry\\b", "\\bcatch\\b", "\\bfinally\\b", "\\bsynchronized\\b", "\\bassert\\b", "->", "::",
    "\\bpackage\\b", "\\bMath\\.\\w+Exact\\b", "\\bSystem\\.(?!arraycopy)\\w+", "\\bThread\\b",
    "\\bRandom\\b", "\\.equals\\(", "\\.hashCode\\(", "\\btoString\\b", "\\bObject\\b",
    "\\bArrays\\.(?!copyOf|copyOfRange|fill)\\w+", "\\bdefault ->", "\\bvar\\b", "\\bstatic \\{",
    "\\bvolatile\\b", "\\btransient\\b", "\\bnative\\b", "\\bvoid finalize\\b", "@"
  };

  private LanguageTest() {
  }

  public static void main(String[] args) throws IOException {
    String text = Files.readString(Path.of("src/main/java/HintForge.java"));
    String bare = text.replaceAll("(?s)/\\*.*?\\*/", "").replaceAll("//[^\n]*", "");
    for (String ruledOut : RULED_OUT) {
      Matcher found = Pattern.compile(ruledOut).matcher(bare);
      Check.same("the text has " + ruledOut, found.find(), false);
    }
    Check.same("signs from 1 to 127", text.chars().allMatch(c -> c >= 1 && c <= 127), true);
    imports(bare);
    face();
    faceOfTheDocument();
    classes();
    lengths(text);
    types();
    onlyListed(bare);
    callsAreNotDeep(bare);
    room();
    Check.end("LanguageTest");
  }

  private static void imports(String bare) {
    Set<String> found = new TreeSet<>();
    Matcher line = Pattern.compile("(?m)^import ([^;]+);").matcher(bare);
    while (line.find()) {
      found.add(line.group(1));
    }
    Check.same("imports", found.toString(),
        "[java.util.Arrays, java.util.NoSuchElementException]");
  }

  private static void face() {
    Set<String> open = new TreeSet<>();
    for (Method method : HintForge.class.getDeclaredMethods()) {
      boolean isPrivate = Modifier.isPrivate(method.getModifiers());
      Check.same(method + " is public or private", isPrivate, !Modifier.isPublic(method.getModifiers()));
      if (!isPrivate) {
        open.add(method.getName());
      }
    }
    Check.same("methods of the face", open.size(), 43);
    for (Class<?> inside : allClasses()) {
      for (Method method : inside.getDeclaredMethods()) {
        boolean isOwn = inside != HintForge.class || Modifier.isPrivate(method.getModifiers());
        Check.same(method + " bears a public name", isOwn && open.contains(method.getName()), false);
      }
    }
    for (Field field : HintForge.class.getDeclaredFields()) {
      Check.same(field + " is private", Modifier.isPrivate(field.getModifiers()), true);
    }
  }

  /** Each row of the document's face is a method with these types and exceptions, in this order. */
  private static void faceOfTheDocument() throws IOException {
    String document = Files.readString(Path.of("../shared/DOC.md"));
    String told = document.substring(document.indexOf("```java"), document.lastIndexOf("```"));
    Set<String> due = found(told, "(?m)^    public (\\w+ \\w+\\([^\\n]*);$");
    Set<String> got = new TreeSet<>();
    for (Method method : HintForge.class.getDeclaredMethods()) {
      if (Modifier.isPublic(method.getModifiers())) {
        got.add(rowOfTheFace(method));
      }
    }
    Set<String> plain = new TreeSet<>();
    for (String row : due) {
      plain.add(row.replaceAll("\\b(int|boolean|char) \\w+(?=[,)])", "$1"));
    }
    Check.same("the face", got.toString(), plain.toString());
    Check.same("its methods", plain.size(), 43);
    Check.same("public constructors", HintForge.class.getConstructors().length, 1);
    Check.same("public fields", HintForge.class.getFields().length, 0);
    Check.same("public and final", Modifier.isFinal(HintForge.class.getModifiers()), true);
  }

  private static String rowOfTheFace(Method method) {
    StringBuilder row = new StringBuilder();
    row.append(method.getReturnType().getSimpleName()).append(' ').append(method.getName()).append('(');
    for (Class<?> parameter : method.getParameterTypes()) {
      row.append(row.charAt(row.length() - 1) == '(' ? "" : ", ").append(parameter.getSimpleName());
    }
    row.append(')');
    String before = " throws ";
    for (Class<?> thrown : method.getExceptionTypes()) {
      row.append(before).append(thrown.getSimpleName());
      before = ", ";
    }
    return row.toString();
  }

  private static Set<Class<?>> allClasses() {
    Set<Class<?>> all = new java.util.LinkedHashSet<>();
    all.add(HintForge.class);
    for (Class<?> inside : HintForge.class.getDeclaredClasses()) {
      all.add(inside);
    }
    return all;
  }

  private static void classes() {
    Check.same("at most twelve classes", allClasses().size() <= 12, true);
    for (Class<?> inside : allClasses()) {
      int fields = 0;
      for (Field field : inside.getDeclaredFields()) {
        boolean isStatic = Modifier.isStatic(field.getModifiers());
        fields += isStatic ? 0 : 1;
        boolean isConstant = !isStatic || Modifier.isFinal(field.getModifiers());
        Check.same(field + " is final, if static", isConstant, true);
      }
      Check.same(inside + " has few fields", fields <= 20, true);
      for (Method method : inside.getDeclaredMethods()) {
        Check.same(method + " has few parameters", method.getParameterCount() <= 7, true);
      }
    }
  }

  /** Rule 3: numbers, own classes and String, their rows, and two dimensions of numbers alone. */
  private static void types() {
    for (Class<?> inside : allClasses()) {
      for (Field field : inside.getDeclaredFields()) {
        Check.same(field + " is of a type that is listed", isListed(field.getType()), true);
        boolean isStaticRow = Modifier.isStatic(field.getModifiers()) && field.getType().isArray();
        Check.same(field + " is no row of another kind", !isStaticRow || field.getType() == int[].class, true);
      }
      for (Method method : inside.getDeclaredMethods()) {
        Check.same(method + " answers a type that is listed", isListed(method.getReturnType()), true);
        for (Class<?> parameter : method.getParameterTypes()) {
          Check.same(method + " takes types that are listed", isListed(parameter), true);
        }
        boolean isRecursive = method.getName().equals("collect");
        Check.same(method + " recurs as a private static one",
            !isRecursive || Modifier.isPrivate(method.getModifiers()) && Modifier.isStatic(method.getModifiers()), true);
      }
    }
  }

  private static boolean isListed(Class<?> type) {
    if (type.isArray() && type.getComponentType().isArray()) {
      return type.getComponentType().getComponentType().isPrimitive();
    }
    Class<?> one = type.isArray() ? type.getComponentType() : type;
    return one.isPrimitive() || one == String.class || allClasses().contains(one);
  }

  private static Set<String> found(String bare, String pattern) {
    Set<String> all = new TreeSet<>();
    Matcher each = Pattern.compile(pattern).matcher(bare);
    while (each.find()) {
      all.add(each.group(1));
    }
    return all;
  }

  /** Rules 4, 6 and 10: what is called of the library, what is thrown, and no text joined by +. */
  private static void onlyListed(String bare) {
    Set<String> library = found(bare, "\\b((?:Math|Long|Integer|Arrays|System)\\.\\w+)");
    library.removeAll(Set.of("Math.floorDiv", "Math.max", "Math.min", "Math.abs", "Long.bitCount",
        "Arrays.fill", "System.arraycopy"));
    Check.same("of the library", library.toString(), "[]");
    Set<String> thrown = found(bare, "throw new (\\w+)\\(\"[^\"]*\"\\);");
    thrown.removeAll(Set.of("IllegalStateException", "IllegalArgumentException", "ArithmeticException",
        "IndexOutOfBoundsException", "UnsupportedOperationException", "NoSuchElementException"));
    Check.same("thrown", thrown.toString(), "[]");
    Check.same("all throws are of a written text", found(bare, "(throw (?!new \\w+\\(\"[^\"]*\"\\);).*)").toString(), "[]");
    Check.same("no text is joined by +", found(bare, "(\"\\s*\\+|\\+\\s*\")").toString(), "[]");
    Check.same("each fill is of numbers", found(bare, "Arrays\\.fill\\((\\w+)").toString(),
        "[keys, references, storage, totals]");
  }

  /** Rule 11: eight calls deep at most, by the names of the methods, the one of the face included. */
  private static void callsAreNotDeep(String bare) {
    Map<String, Set<String>> calls = new TreeMap<>();
    Matcher head = Pattern.compile("(?m)^ {2,4}(?:public |private |static |final )*[\\w\\[\\]]+ (\\w+)\\([^;]*?\\{$").matcher(bare);
    int from = -1;
    String name = null;
    while (head.find()) {
      if (name != null) {
        calls.computeIfAbsent(name, k -> new TreeSet<>()).addAll(found(bare.substring(from, head.start()), "(\\w+)\\("));
      }
      name = head.group(1);
      from = head.end();
    }
    calls.computeIfAbsent(name, k -> new TreeSet<>()).addAll(found(bare.substring(from), "(\\w+)\\("));
    calls.get("collect").remove("collect");
    Check.same("methods are found", calls.keySet().containsAll(Set.of("pixel", "moveBy", "isOutside", "take")), true);
    int deepest = 0;
    for (String each : calls.keySet()) {
      deepest = Math.max(deepest, depth(each, calls, 0));
    }
    Check.same("calls are " + deepest + " deep", deepest <= 8, true);
  }

  /** Rule 12: what an object holds after calls of all kinds is what it was made with. */
  private static void room() {
    HintForge font = Fonts.atSize25();
    String before = held(font);
    Fonts.box(font, 0, 0, 100, 100);
    Fonts.program(font, 0, "p0 m p1 r p0 I C0");
    Fonts.function(font, "R1");
    font.addRegion(0, 100, 0);
    font.setDelta(0, 0, 0, 10, 10);
    font.addColour(0, 0, 1);
    font.keep(0, true);
    font.type(0);
    for (int size = 4; size <= 32; size++) {
      font.setSize(size);
      font.pixels(0);
      font.isSame(0);
      font.width();
      font.colourAt(0, 8, 8);
    }
    Check.same("objects and elements", held(font), before);
    String[] counts = before.split(" ");
    Check.same("few objects", Integer.parseInt(counts[0]) < 2000, true);
    Check.same("few fields and elements", Integer.parseInt(counts[1]) < 60000, true);
  }

  /** How many objects and rows, and how many fields and elements, can be reached from an object. */
  private static String held(Object root) {
    Map<Object, Boolean> seen = new IdentityHashMap<>();
    ArrayDeque<Object> open = new ArrayDeque<>();
    open.add(root);
    int fields = 0;
    while (!open.isEmpty()) {
      Object one = open.poll();
      if (seen.put(one, true) != null) {
        continue;
      }
      for (Object inside : insideOf(one)) {
        fields++;
        if (inside != null && (inside.getClass().isArray() || allClasses().contains(inside.getClass()))) {
          open.add(inside);
        }
      }
    }
    return seen.size() + " " + fields;
  }

  private static List<Object> insideOf(Object one) {
    List<Object> all = new ArrayList<>();
    if (one.getClass().isArray()) {
      for (int i = 0; i < Array.getLength(one); i++) {
        all.add(Array.get(one, i));
      }
      return all;
    }
    for (Field field : one.getClass().getDeclaredFields()) {
      if (!Modifier.isStatic(field.getModifiers())) {
        field.setAccessible(true);
        try {
          all.add(field.get(one));
        } catch (IllegalAccessException e) {
          Check.same(field + " can be read", false, true);
        }
      }
    }
    return all;
  }

  private static int depth(String name, Map<String, Set<String>> calls, int above) {
    if (above > 40 || !calls.containsKey(name)) {
      return above > 40 ? 40 : 0;
    }
    int deepest = 0;
    for (String called : calls.get(name)) {
      deepest = Math.max(deepest, depth(called, calls, above + 1));
    }
    return 1 + deepest;
  }

  private static void lengths(String text) {
    int from = 0;
    String[] lines = text.split("\n", -1);
    for (int i = 0; i < lines.length; i++) {
      if (lines[i].matches(" {2,4}[^ /*].*\\{")) {
        from = i;
      }
      boolean isEnd = lines[i].equals("  }") || lines[i].equals("    }");
      Check.same("lines of " + lines[from].trim(), isEnd && i - from > 60 && !lines[from].contains("class"), false);
      Check.same("length of line " + (i + 1), lines[i].length() > 100, false);
    }
  }
}
