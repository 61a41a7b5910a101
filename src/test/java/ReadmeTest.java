import java.lang.reflect.Method;
import java.nio.file.Files;
import java.nio.file.Path;
import java.util.HashMap;
import java.util.Map;
import java.util.regex.Matcher;
import java.util.regex.Pattern;

/** README.md: the calls that it shows answer what stands behind them, and it names every call of the face. */
public final class ReadmeTest {
  private static final Due DUE = new Due();
  private static final Pattern CALL = Pattern.compile("(?:int (\\w+) = )?hills\\.(\\w+)\\((.*)\\); +// (-?\\d+)(?:: .*)?");
  private static final Pattern TEXT = Pattern.compile("put\\(hills, \"(.*)\"\\);");

  private final Map<String, Method> face = new HashMap<>();
  private final Map<String, Integer> names = new HashMap<>();
  private CradleDuel hills;
  private int shown = 0;

  private ReadmeTest() {
    for (Method m : CradleDuel.class.getDeclaredMethods()) {
      if (java.lang.reflect.Modifier.isPublic(m.getModifiers())) face.put(m.getName(), m);
    }
  }

  private Object[] numbers(String list) {
    if (list.isEmpty()) return new Object[0];
    String[] words = list.split(", ");
    Object[] all = new Object[words.length];
    for (int i = 0; i < words.length; i++) all[i] = names.containsKey(words[i]) ? names.get(words[i]) : Integer.valueOf(words[i]);
    return all;
  }

  private void call(String line, Matcher call) throws Exception {
    int got = (Integer) face.get(call.group(2)).invoke(hills, numbers(call.group(3)));
    DUE.is(line, got, Integer.parseInt(call.group(4)));
    if (call.group(1) != null) names.put(call.group(1), got);
    shown++;
  }

  // the helper is shown in a block of its own: Due.put() is the same
  private void block(String code) throws Exception {
    if (code.startsWith("static ")) return;
    for (String line : code.split("\n")) {
      Matcher call = CALL.matcher(line);
      Matcher text = TEXT.matcher(line);
      if (line.equals("CradleDuel hills = new CradleDuel();")) hills = new CradleDuel();
      else if (text.matches()) Due.put(hills, text.group(1));
      else if (call.matches()) call(line, call);
      else DUE.is("this line can be read: " + line, 0, 1);
    }
  }

  private void read(String page) throws Exception {
    Matcher blocks = Pattern.compile("```java\n(.*?)```", Pattern.DOTALL).matcher(page);
    while (blocks.find()) block(blocks.group(1));
    DUE.is("calls are shown", shown > 20 ? 1 : 0, 1);
    for (String name : face.keySet()) DUE.is("README.md names " + name, page.contains("`" + name + "`") ? 1 : 0, 1);
    DUE.is("README.md names .ci/run", page.contains("`.ci/run`") ? 1 : 0, 1);
  }

  public static void main(String[] args) throws Exception {
    new ReadmeTest().read(Files.readString(Path.of("README.md")));
    DUE.end("README.md");
  }
}
