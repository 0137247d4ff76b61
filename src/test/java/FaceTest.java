import java.lang.reflect.Array;
import java.lang.reflect.Constructor;
import java.lang.reflect.Field;
import java.lang.reflect.Method;
import java.lang.reflect.Modifier;
import java.nio.file.Files;
import java.nio.file.Path;
import java.util.ArrayList;
import java.util.IdentityHashMap;
import java.util.List;
import java.util.TreeSet;
import java.util.regex.Matcher;
import java.util.regex.Pattern;

// The class's face, what LANGUAGE.md rules out as far as the source and the compiled class show it,
// arguments as far out as an int goes, and how much one object holds.
public final class FaceTest {
  private static final int[] FAR = {-2147483648, -2147483647, -1000, -101, -61, -1, 0, 1, 3, 7, 8, 9, 10, 11, 31, 37,
      60, 61, 73, 100, 363, 370, 400, 2147483600, 2147483646, 2147483647};
  private static int wrong = 0;

  private static void hold(String what, boolean holds) {
    if (holds) return;
    wrong++;
    System.out.println(what);
  }

  private static void face() {
    TreeSet<String> due = new TreeSet<>(List.of("boolean thick 3", "boolean steep 2", "boolean fault 2",
        "boolean heal 1", "boolean ground 2", "int sight 3", "boolean take 1", "int quarrel 0", "int span 3",
        "int open 0", "int layer 2", "int between 3", "int worn 2", "int tells 2", "int next 0", "int bend 1",
        "int told 2", "int count 1"));
    TreeSet<String> found = new TreeSet<>();
    for (Method m : HillLayers.class.getDeclaredMethods()) {
      if (Modifier.isPrivate(m.getModifiers())) continue;
      hold(m + " is not public", Modifier.isPublic(m.getModifiers()) && !Modifier.isStatic(m.getModifiers()));
      found.add(m.getReturnType() + " " + m.getName() + " " + m.getParameterCount());
      for (Class<?> parameter : m.getParameterTypes()) hold(m + " takes no int", parameter == int.class);
    }
    hold("methods are " + found + ", due are " + due, found.equals(due));
    Constructor<?>[] makers = HillLayers.class.getDeclaredConstructors();
    hold("one public constructor", makers.length == 1 && Modifier.isPublic(makers[0].getModifiers()));
    for (Field f : HillLayers.class.getDeclaredFields()) {
      hold(f + " is to be private", f.getName().equals("NONE") || Modifier.isPrivate(f.getModifiers()));
      hold(f + " is to be final", !Modifier.isStatic(f.getModifiers()) || Modifier.isFinal(f.getModifiers()));
    }
    hold("NONE is -1", HillLayers.NONE == -1);
    hold("a final class", Modifier.isFinal(HillLayers.class.getModifiers()));
  }

  private static void words() throws Exception {
    String source = Files.readString(Path.of("src/main/java/HillLayers.java"));
    String code = source.replaceAll("(?s)/\\*.*?\\*/", " ").replaceAll("//[^\n]*", " ");
    for (String word : "throw throws try catch finally synchronized assert import package yield var System.out".split(" ")) {
      hold("the source has the word " + word, !code.matches("(?s).*\\b" + word.replace(".", "\\.") + "\\b.*"));
    }
    hold("the source has a lambda or a method reference", !code.contains("->") && !code.contains("::"));
    hold("the source has a sign above 127", source.chars().allMatch(sign -> sign < 128));
  }

  /** Rules 1, 2, 5 and 11, of the class and of those inside it. */
  private static void classes() {
    TreeSet<String> publicNames = new TreeSet<>();
    for (Method m : HillLayers.class.getDeclaredMethods()) if (Modifier.isPublic(m.getModifiers())) publicNames.add(m.getName());
    List<Class<?>> all = new ArrayList<>(List.of(HillLayers.class.getDeclaredClasses()));
    hold("at most some twelve classes", all.size() < 12);
    for (Class<?> c : all) {
      hold(c + " is to be static", Modifier.isStatic(c.getModifiers()));
      hold(c + " is to be private or package-visible", !Modifier.isPublic(c.getModifiers()) && !Modifier.isProtected(c.getModifiers()));
    }
    all.add(HillLayers.class);
    for (Class<?> c : all) {
      int fields = 0;
      for (Field f : c.getDeclaredFields()) {
        if (!Modifier.isStatic(f.getModifiers())) fields++;
        else hold(f + " is to be a constant", Modifier.isFinal(f.getModifiers()) && (f.getType().isPrimitive() || f.getType() == String.class));
      }
      hold(c + " has " + fields + " fields", fields <= 20);
      for (Constructor<?> maker : c.getDeclaredConstructors()) hold(maker + " takes too much", maker.getParameterCount() <= 7);
      for (Method m : c.getDeclaredMethods()) {
        hold(m + " takes too much", m.getParameterCount() <= 7);
        hold(m + " bears the name of a public one", !Modifier.isPrivate(m.getModifiers()) || !publicNames.contains(m.getName()));
        hold(m + " was made by the compiler", !m.isSynthetic());
      }
    }
  }

  /** Rules 4 and 11: the library's calls, and how long a method is. */
  private static void source() throws Exception {
    List<String> allowed = List.of("Math.max", "Math.min", "Math.abs", "Integer.bitCount", "System.arraycopy");
    int started = 0;
    String indent = null;
    List<String> lines = Files.readAllLines(Path.of("src/main/java/HillLayers.java"));
    for (int i = 0; i < lines.size(); i++) {
      String line = lines.get(i);
      Matcher called = Pattern.compile("\\b([A-Z]\\w*\\.\\w+)\\(").matcher(line);
      while (called.find()) hold("line " + (i + 1) + " calls " + called.group(1), allowed.contains(called.group(1)));
      String blanks = line.substring(0, line.length() - line.stripLeading().length());
      if (indent == null && line.matches("( {4}){1,2}[^=*]*\\) \\{") && !line.matches(" *(if|for|while|switch) .*")) {
        indent = blanks;
        started = i;
      } else if (line.equals(indent + "}")) {
        hold("the method of line " + (started + 1) + " has " + (i - started + 1) + " lines", i - started < 60);
        indent = null;
      }
    }
    hold("a method without an end", indent == null);
  }

  private static void askAll(HillLayers x) {
    x.quarrel();
    x.open();
    x.next();
    for (int a : FAR) {
      x.bend(a);
      x.count(a);
      for (int b : FAR) {
        x.layer(a, b);
        x.worn(a, b);
        x.tells(a, b);
        x.told(a, b);
        for (int c : FAR) {
          x.span(a, b, c);
          x.between(a, b, c);
        }
      }
    }
  }

  /** None of these calls may throw; what they answer is asked elsewhere. */
  private static void farArguments() {
    for (int w : FAR) {
      for (int s : FAR) {
        HillLayers x = new HillLayers(w, s);
        hold("columns of " + w, x.count(0) == Math.max(2, Math.min(8, w)));
        hold("surfaces of " + s, x.count(1) == Math.max(1, Math.min(4, s)));
      }
    }
    for (int w = 2; w <= 8; w += 3) {
      for (int s = 1; s <= 4; s += 3) {
        HillLayers x = new HillLayers(w, s);
        askAll(x);
        for (int a : FAR) {
          for (int b : FAR) {
            x.steep(a, b);
            x.ground(a, b);
            for (int c : FAR) x.sight(a, b, c);
          }
        }
        askAll(x);
        for (int a : FAR) for (int b : FAR) for (int c : FAR) x.thick(a, b, c);
        askAll(x);
        for (int a : FAR) {
          for (int b : FAR) x.fault(a, b);
          x.take(a);
        }
        askAll(x);
        for (int a : FAR) x.heal(a);
        askAll(x);
      }
    }
  }

  /** All fields and elements that an object holds, and those of what it holds. */
  private static long held(Object start) throws Exception {
    IdentityHashMap<Object, Boolean> seen = new IdentityHashMap<>();
    List<Object> open = new ArrayList<>(List.of(start));
    seen.put(start, true);
    long count = 0;
    while (!open.isEmpty()) {
      Object o = open.remove(open.size() - 1);
      List<Object> inside = new ArrayList<>();
      if (o.getClass().isArray()) {
        count += Array.getLength(o);
        if (o instanceof Object[] row) for (Object part : row) inside.add(part);
      } else {
        for (Field f : o.getClass().getDeclaredFields()) {
          if (Modifier.isStatic(f.getModifiers())) continue;
          count++;
          f.setAccessible(true);
          if (!f.getType().isPrimitive()) inside.add(f.get(o));
        }
      }
      for (Object part : inside) if (part != null && seen.put(part, true) == null) open.add(part);
    }
    return count;
  }

  /** The document's room has 7.3 million; an object that is used all it may be keeps far below. */
  private static void room() throws Exception {
    HillLayers x = new HillLayers(8, 4);
    for (int call = 0; call < 128; call++) {
      x.sight(call % 4 * 100 + call % 8 * 10 + call % 4, call % 60, 1);
      x.fault(call % 7, call % 3);
      x.quarrel();
      x.next();
    }
    long held = held(x);
    hold("one object holds " + held, held < 20_000);
  }

  public static void main(String[] args) throws Exception {
    face();
    words();
    classes();
    source();
    farArguments();
    room();
    System.out.println(wrong == 0 ? "the face is as due" : wrong + " things are not as due");
    if (wrong != 0) System.exit(1);
  }
}
