import java.lang.reflect.Field;
import java.lang.reflect.Method;
import java.lang.reflect.Modifier;
import java.nio.file.Files;
import java.nio.file.Path;
import java.util.List;
import java.util.Set;
import java.util.TreeSet;
import java.util.regex.Matcher;
import java.util.regex.Pattern;

/** Those rules of LANGUAGE.md that a look at the source and at the class can tell. */
public final class LanguageTest {
  private static int wrong = 0;

  private static void rule(int number, boolean kept, String what) {
    if (!kept) {
      wrong++;
      System.out.println("rule " + number + ": " + what);
    }
  }

  private static String withoutComments(String source) {
    return source.replaceAll("(?s)/\\*.*?\\*/", "").replaceAll("//[^\n]*", "").replaceAll("\"(\\\\.|[^\"\\\\])*\"", "\"\"");
  }

  private static void words(String code) {
    String[] banned = {"throw", "try", "catch", "synchronized", "assert", "Object", "Runnable", "var", "yield", "volatile", "native"};
    for (String b : banned) rule(6, !Pattern.compile("\\b" + b + "\\b").matcher(code).find(), "the word " + b);
    rule(2, !code.contains("->") && !code.contains("::"), "a lambda or a method reference");
    rule(4, !code.contains("Exact(") && !code.contains("System.out") && !code.contains("System.exit"), "a call outside the library");
    rule(10, !Pattern.compile("\"\"\\s*\\+|\\+\\s*\"\"").matcher(code).find(), "texts joined by +");
    rule(5, !Pattern.compile("\\bstatic\\s*\\{").matcher(code).find(), "a static initialiser");
    rule(3, !Pattern.compile("\\[\\]\\s*\\[\\]\\s*\\[\\]").matcher(code).find(), "three dimensions");
    Matcher imports = Pattern.compile("import ([\\w.*]+);").matcher(code);
    Set<String> allowed = Set.of("java.util.Arrays", "java.util.ArrayList", "java.util.List", "java.util.Iterator");
    while (imports.find()) rule(4, allowed.contains(imports.group(1)), "import " + imports.group(1));
    Matcher calls = Pattern.compile("\\b(System|Arrays|Math|Integer|Long)\\.(\\w+)").matcher(code);
    Set<String> known = Set.of(
        "System.arraycopy", "Arrays.fill", "Arrays.copyOf", "Arrays.copyOfRange", "Math.max", "Math.min", "Math.abs", "Integer.bitCount");
    while (calls.find()) rule(4, known.contains(calls.group(1) + "." + calls.group(2)), calls.group());
  }

  private static void face() {
    Class<?> c = CradleDuel.class;
    rule(1, Modifier.isPublic(c.getModifiers()) && Modifier.isFinal(c.getModifiers()), "public and final");
    Set<String> names = new TreeSet<>();
    int open = 0;
    for (Method m : c.getDeclaredMethods()) {
      if (Modifier.isPublic(m.getModifiers())) {
        names.add(m.getName());
        open++;
      } else {
        rule(1, Modifier.isPrivate(m.getModifiers()), m.getName() + " is neither public nor private");
      }
    }
    rule(1, open == 41 && names.size() == 41, open + " public methods");
    for (Field f : c.getDeclaredFields()) {
      boolean constant = f.getName().equals("NONE") || f.getName().equals("NOTHING");
      rule(1, constant == Modifier.isPublic(f.getModifiers()), f.getName());
      rule(1, constant || Modifier.isPrivate(f.getModifiers()), f.getName());
    }
    rule(11, c.getDeclaredClasses().length <= 12, "classes inside: " + c.getDeclaredClasses().length);
    inside(c, names);
    for (Class<?> d : c.getDeclaredClasses()) inside(d, names);
  }

  private static void inside(Class<?> c, Set<String> open) {
    rule(2, c == CradleDuel.class || Modifier.isStatic(c.getModifiers()), c.getName() + " is not static");
    int fields = 0;
    for (Field f : c.getDeclaredFields()) {
      if (Modifier.isStatic(f.getModifiers())) rule(5, Modifier.isFinal(f.getModifiers()), c.getName() + "." + f.getName());
      else fields++;
    }
    rule(11, fields <= 20, c.getName() + " has " + fields + " fields");
    for (Method m : c.getDeclaredMethods()) {
      rule(11, m.getParameterCount() <= 7, m.getName() + " takes " + m.getParameterCount());
      rule(1, Modifier.isPublic(m.getModifiers()) || !open.contains(m.getName()), c.getName() + "." + m.getName() + " bears a public name");
    }
  }

  private static void lengths(List<String> lines) {
    int from = -1;
    int indent = 0;
    for (int i = 0; i < lines.size(); i++) {
      Matcher m = Pattern.compile("^( {2}| {4})\\S.*\\) \\{$").matcher(lines.get(i));
      if (m.matches() && from < 0) {
        from = i;
        indent = m.group(1).length();
      } else if (from >= 0 && lines.get(i).equals(" ".repeat(indent) + "}")) {
        rule(11, i - from - 1 <= 60, "line " + (from + 1) + ": a method of " + (i - from - 1) + " lines");
        from = -1;
      }
    }
  }

  public static void main(String[] args) throws Exception {
    Path source = Path.of("src/main/java/CradleDuel.java");
    String text = Files.readString(source);
    for (char c : text.toCharArray()) rule(4, c == '\n' || (c >= 32 && c < 127), "the sign " + (int) c);
    words(withoutComments(text));
    face();
    lengths(Files.readAllLines(source));
    System.out.println("rules of LANGUAGE.md: " + wrong + " broken");
    if (wrong != 0) System.exit(1);
  }
}
