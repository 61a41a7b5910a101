import java.io.IOException;
import java.nio.file.Files;
import java.nio.file.Path;
import java.util.ArrayList;
import java.util.LinkedHashMap;
import java.util.List;
import java.util.Map;
import java.util.regex.Matcher;
import java.util.regex.Pattern;
import java.util.stream.Stream;

/** No test: tells which of the document's words no says() of a test quotes, and which quotes are not in it. */
public final class Sentences {
  private final Map<String, String> sections = new LinkedHashMap<>();
  private final Map<String, boolean[]> quoted = new LinkedHashMap<>();
  private int strange = 0;

  private void readDocument(String text) {
    String where = null;
    StringBuilder now = new StringBuilder();
    for (String line : text.split("\n")) {
      Matcher term = Pattern.compile("^(I|II|III|IV)\\. (.*)").matcher(line);
      Matcher promise = Pattern.compile("^## Promise (\\d+):.*").matcher(line);
      String next = term.matches() ? term.group(1) : promise.matches() ? promise.group(1) : line.startsWith("The constants:") ? "constants"
          : line.startsWith("## ") ? "" : null;
      if (next != null) {
        close(where, now);
        where = next.isEmpty() ? null : next;
        line = term.matches() ? term.group(2) : promise.matches() ? "" : line;
      }
      if (where != null && !line.startsWith("```")) now.append(line).append(' ');
    }
    close(where, now);
  }

  private void close(String where, StringBuilder now) {
    // of a promise its words alone, without the call that they are of
    String words = now.toString().replaceAll("\\s+", " ").trim().replaceFirst("^`[^`]*`: ", "");
    now.setLength(0);
    if (where != null) {
      sections.put(where, words);
      quoted.put(where, new boolean[words.length()]);
    }
  }

  private void readTest(String source) {
    Matcher says = Pattern.compile("DUE\\.says\\((.*?)\\);\n", Pattern.DOTALL).matcher(source);
    while (says.find()) {
      String joined = says.group(1).replaceAll("\"\\s*\\+\\s*\"", "");
      Matcher text = Pattern.compile("\"((?:\\\\.|[^\"\\\\])*)\"").matcher(joined);
      while (text.find()) mark(text.group(1).replace("\\\"", "\""));
    }
  }

  private void mark(String quote) {
    int colon = quote.indexOf(": ");
    String where = quote.substring(0, colon);
    String words = quote.substring(colon + 2);
    String section = sections.getOrDefault(where, "");
    int at = section.indexOf(words);
    if (at < 0) {
      strange++;
      System.out.println("not in the document: " + quote);
    }
    for (; at >= 0; at = section.indexOf(words, at + 1)) for (int i = 0; i < words.length(); i++) quoted.get(where)[at + i] = true;
  }

  private void tell() {
    for (String where : sections.keySet()) {
      List<String> left = new ArrayList<>();
      StringBuilder part = new StringBuilder();
      String words = sections.get(where);
      for (int i = 0; i <= words.length(); i++) {
        if (i < words.length() && !quoted.get(where)[i]) {
          part.append(words.charAt(i));
        } else {
          if (part.toString().matches(".*[A-Za-z0-9].*")) left.add(part.toString().trim());
          part.setLength(0);
        }
      }
      if (!left.isEmpty()) System.out.println(where + ": " + String.join(" | ", left));
    }
  }

  public static void main(String[] args) throws IOException {
    Sentences all = new Sentences();
    all.readDocument(Files.readString(Path.of("../shared/DOC.md")));
    try (Stream<Path> files = Files.list(Path.of("src/test/java"))) {
      for (Path file : files.filter(f -> f.toString().endsWith("Test.java")).sorted().toList()) all.readTest(Files.readString(file));
    }
    all.tell();
    System.out.println(all.sections.size() + " sections, " + all.strange + " quotes that are not there");
  }
}
