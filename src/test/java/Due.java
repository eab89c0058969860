/** What the tests share: it prints every call whose answer is not the one that is due. */
final class Due {
  static final int BEYOND = -1000001;
  static final int FULL = -1000002;
  static final int KIND = -1000003;
  static final int NONE = -1000004;
  static final int STATE = -1000005;
  static final int MISSING = -1000006;
  static final int SIZE = -1000007;

  private static int wrong = 0;
  private static String sentence = "";

  private Due() {}

  /** What is asked from here on is what this sentence of the document says. */
  static void ofSentence(String told) {
    sentence = " (\"" + told + "\")";
  }

  static void is(String call, long got, long want) {
    if (got != want) wrong(call + " answered " + got + ", due is " + want);
  }

  static void wrong(String what) {
    wrong++;
    System.out.println(what + sentence);
  }

  static void end() {
    System.out.println(wrong == 0 ? "all answers are as due" : wrong + " answers are not as due");
    if (wrong != 0) System.exit(1);
  }

  /** Four bytes a call, so that a text leaves many of the 512 calls. */
  static void feed(WordHedge x, String text) {
    for (int i = 0; i < text.length(); i += 4) {
      int n = Math.min(4, text.length() - i);
      int bytes = 0;
      for (int k = 0; k < n; k++) {
        bytes = bytes << 8 | text.charAt(i + k);
      }
      x.feed(bytes, n);
    }
  }

  static int read(WordHedge x, String text) {
    feed(x, text);
    return x.text();
  }

  static WordHedge told(String text) {
    WordHedge x = new WordHedge();
    int items = read(x, text);
    if (items < 0) is("text of " + text, items, 1);
    return x;
  }

  /** Sheet s becomes one of 32 bits with these numbers. */
  static void fill(WordHedge x, int s, int... numbers) {
    fillBits(x, s, 32, numbers);
  }

  static void fillBits(WordHedge x, int s, int bits, int... numbers) {
    x.sheet(s, bits, numbers.length);
    for (int i = 0; i < numbers.length; i++) {
      x.write(s, i, numbers[i]);
    }
  }

  static void traits(WordHedge x, String name, int slip, int... due) {
    for (int what = 0; what < due.length; what++) {
      is(name + ", trait " + what, x.of(slip, what), due[what]);
    }
  }

  /** A year that no 512 calls reach: what is asked there is what the words say of YEAR 99999. */
  static void goTo(WordHedge x, int year) {
    for (int i = 0; i < 2000 && x.now(0) < year; i++) {
      x.go(Math.min(60, year - x.now(0)));
    }
    is("year gone to", x.now(0), year);
  }
}
