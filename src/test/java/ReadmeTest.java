import java.io.IOException;
import java.lang.reflect.Method;
import java.nio.file.Files;
import java.nio.file.Path;
import java.util.Arrays;
import java.util.List;
import java.util.regex.Matcher;
import java.util.regex.Pattern;
import java.util.stream.Stream;

/** README.md says how to use the class: its example answers so, and it has all calls, findings and tests. */
public final class ReadmeTest {
  public static void main(String[] args) throws Exception {
    String readme = Files.readString(Path.of("README.md"));
    example(readme);
    calls(readme);
    findings(readme);
    itemsOfText(readme);
    tests(readme);
    Due.end();
  }

  private static Matcher found(String pattern, String text) {
    return Pattern.compile(pattern).matcher(text);
  }

  /** Lines of the form "hedge.call(numbers); // answer: why". */
  private static void example(String readme) throws ReflectiveOperationException {
    Matcher line = found("(?m)^hedge\\.(\\w+)\\(([-\\d, ]*)\\); +// (-?\\d+):.*$", readme);
    WordHedge hedge = new WordHedge();
    int lines = 0;
    while (line.find()) {
      lines++;
      Object[] arguments = Stream.of(line.group(2).split(", *")).filter(a -> !a.isEmpty()).map(Integer::valueOf)
          .toArray();
      Number answer = (Number) called(line.group(1), arguments.length).invoke(hedge, arguments);
      Due.is("in README.md " + line.group(1) + List.of(arguments), answer.longValue(), Long.parseLong(line.group(3)));
    }
    Due.is("lines of the example", lines, lines(readme, "hedge."));
    Due.is("lines of the example are none", lines == 0 ? 1 : 0, 0);
  }

  private static Method called(String name, int arguments) throws NoSuchMethodException {
    Class<?>[] types = new Class<?>[arguments];
    Arrays.fill(types, int.class);
    return WordHedge.class.getMethod(name, types);
  }

  private static int lines(String text, String begin) {
    return (int) text.lines().filter(line -> line.startsWith(begin)).count();
  }

  /** The table has each call of the document's face once, with the document's names, in its order. */
  private static void calls(String readme) throws IOException {
    Matcher call = found("(?m)^    public (?:int|long) (\\w+)\\((.*)\\);$", Files.readString(Path.of("../shared/DOC.md")));
    int at = 0;
    int calls = 0;
    while (call.find()) {
      calls++;
      String row = "\n| `" + call.group(1) + "(" + call.group(2).replace("int ", "") + ")` | ";
      int stands = readme.indexOf(row, at);
      Due.is("README.md has no row in its place" + row, stands < 0 ? 1 : 0, 0);
      at = Math.max(at, stands);
    }
    Due.is("calls of the document", calls, 42);
    Due.is("rows of calls", found("(?m)^\\| `\\w+\\(.*\\)` \\|", readme).results().count(), calls);
  }

  private static void findings(String readme) {
    String[] names = {"BEYOND", "FULL", "KIND", "NONE", "STATE", "MISSING", "SIZE"};
    for (int i = 0; i < names.length; i++) {
      String row = "\n| " + names[i] + " | " + (Due.BEYOND - i) + " | ";
      Due.is("README.md has the finding " + names[i], readme.contains(row) ? 1 : 0, 1);
    }
  }

  private static void itemsOfText(String readme) {
    Matcher text = found("between them: `(.*)`\\.", readme);
    Due.is("README.md has a text", text.find() ? 1 : 0, 1);
    WordHedge x = new WordHedge();
    Due.is("items of it", Due.read(x, text.group(1)), 3);
    Due.traits(x, "its slip", 0, 1, 3, 20, 5, 1, 4, 0);
    Due.is("its hurdles", x.now(3), 6);
    Due.is("its leaning", x.leaning(0), 320);
  }

  private static void tests(String readme) throws IOException {
    List<Path> files;
    try (Stream<Path> all = Files.list(Path.of("src/test/java"))) {
      files = all.filter(file -> file.toString().endsWith("Test.java")).toList();
    }
    for (Path file : files) {
      String name = file.getFileName().toString().replace(".java", "");
      Due.is("README.md has a row of " + name, readme.contains("\n| `" + name + "` | ") ? 1 : 0, 1);
    }
    Due.is("rows of tests", found("(?m)^\\| `\\w+Test` \\|", readme).results().count(), files.size());
  }
}
