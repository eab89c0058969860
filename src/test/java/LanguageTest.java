import java.nio.file.Files;
import java.nio.file.Path;
import java.util.List;
import java.util.regex.Matcher;
import java.util.regex.Pattern;

/** The rules of LANGUAGE.md that a look at the text of WordHedge.java can hold it to. */
public final class LanguageTest {
  private static final String[] FORBIDDEN = {"throw", "throws", "try", "catch", "finally", "synchronized", "assert",
      "volatile", "transient", "native", "var", "yield", "Object", "equals", "hashCode", "toString", "System\\.out",
      "System\\.exit", "Exact", "->", "::", "package", "protected", "Random", "nanoTime", "currentTimeMillis",
      "class \\w+ extends Thread", "new \\w+\\(\\) \\{", "float", "double"};

  public static void main(String[] args) throws Exception {
    List<String> lines = Files.readAllLines(Path.of("src/main/java/WordHedge.java"));
    StringBuilder code = new StringBuilder();
    for (String line : lines) {
      Due.is("a line of more than 120 signs: " + line, Math.max(line.length(), 120), 120);
      code.append(line.replaceAll("/\\*\\*.*\\*/|//.*", "").replaceAll("\"[^\"]*\"", "\"\"")).append('\n');
    }
    words(code.toString());
    imports(code.toString());
    statics(code.toString());
    methods(code.toString());
    Due.end();
  }

  private static int times(String pattern, String code) {
    Matcher m = Pattern.compile(pattern).matcher(code);
    int times = 0;
    while (m.find()) {
      times++;
    }
    return times;
  }

  private static void words(String code) {
    for (String word : FORBIDDEN) {
      String pattern = Character.isLetter(word.charAt(0)) ? "\\b" + word + "\\b" : word;
      Due.is("forbidden: " + word, times(pattern, code), 0);
    }
    Due.is("texts joined by +", times("\"\"\\s*\\+|\\+\\s*\"\"", code), 0);
    Due.is("signs that are not of ASCII", times("[^\\x00-\\x7f]", code), 0);
    Due.is("classes inside that are not private, static and final", times("\\bclass \\w+ \\{", code) - 1
        - times("private static final class \\w+ \\{", code), 0);
    Due.is("more than twelve classes", Math.max(12, times("\\bclass \\w+ \\{", code)), 12);
  }

  private static void imports(String code) {
    Due.is("imports but of Arrays", times("\\bimport\\b", code) - times("import java\\.util\\.Arrays;", code), 0);
    Due.is("calls of Arrays but fill", times("\\bArrays\\.", code) - times("\\bArrays\\.fill\\(", code), 0);
  }

  private static void statics(String code) {
    int fields = times("(?m)^\\s+(private |public )?static [^({;\\n]*[=;]", code);
    int constants = times("(?m)^\\s+private static final (int|long|boolean|char|String|int\\[\\]) [A-Z_]+ =", code);
    Due.is("static fields that are no constants", fields - constants, 0);
  }

  /** A method begins with its name and ends with the brace of the same indent. */
  private static void methods(String code) {
    Matcher m = Pattern.compile("(?m)^( +)((?:private |public |static )*)[\\w\\[\\]]+ (\\w+)\\(([^)]*)\\) \\{$").matcher(code);
    int found = 0;
    while (m.find()) {
      found++;
      String end = "\n" + m.group(1) + "}\n";
      int length = times("\n", code.substring(m.start(), code.indexOf(end, m.start())));
      Due.is("lines of " + m.group(3), Math.max(60, length), 60);
      Due.is("parameters of " + m.group(3), Math.max(7, m.group(4).split(",").length), 7);
      boolean isPublic = m.group(2).contains("public");
      int same = times("public \\w+ " + m.group(3) + "\\(", code);
      Due.is("methods that bear the public name " + m.group(3), isPublic ? 0 : same, 0);
    }
    Due.is("methods found", Math.min(found, 100), 100);
  }
}
