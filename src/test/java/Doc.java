import java.io.IOException;
import java.io.UncheckedIOException;
import java.nio.file.Files;
import java.nio.file.Path;
import java.util.Arrays;

/** The document by its sentences: a test tells whose it is, and what no test tells is printed as left over. */
final class Doc {
  private static final String TEXT = folded();
  private static final boolean[] TOLD = new boolean[TEXT.length()];
  private static int begin = 0;
  private static int end = 0;

  private Doc() {}

  private static String folded() {
    try {
      String text = Files.readString(Path.of("../shared/DOC.md"));
      return text.replace("```text", " ").replace("```", " ").replaceAll("\\s+", " ");
    } catch (IOException e) {
      throw new UncheckedIOException(e);
    }
  }

  /** The sentences from here on stand between these two places of the document. */
  static void part(String first, String behind) {
    leftOver();
    begin = TEXT.indexOf(first);
    end = begin < 0 ? -1 : TEXT.indexOf(behind, begin);
    if (end >= 0) return;
    Due.wrong("the document has no part from '" + first + "' to '" + behind + "'");
    begin = end = 0;
  }

  static void promise(int number) {
    part("## Promise " + number + ": ", number == 43 ? "## Not promised" : "## Promise " + (number + 1) + ": ");
    begin = TEXT.indexOf("`: ", begin) + 3;
  }

  /** Of one that stands there twice, as "BEYOND", it is the first that is still to be told. */
  static void says(String sentence) {
    int at = begin - 1;
    do {
      at = TEXT.indexOf(sentence, at + 1);
    } while (at >= 0 && TOLD[at]);
    if (at < 0 || at + sentence.length() > end) {
      Due.wrong("the document does not say there: '" + sentence + "'");
      return;
    }
    Arrays.fill(TOLD, at, at + sentence.length(), true);
    Due.ofSentence(sentence);
  }

  private static void leftOver() {
    for (int i = begin; i < end; i++) {
      if (TOLD[i] || !Character.isLetterOrDigit(TEXT.charAt(i))) continue;
      int first = i;
      while (i < end && !TOLD[i]) {
        i++;
      }
      Due.wrong("the document says what no test is of: '" + TEXT.substring(first, i) + "'");
    }
  }

  static void end() {
    leftOver();
    Due.end();
  }
}
