/** What the tests share: it prints every call whose answer is not the one that is due. */
final class Due {
  static final int BEYOND = -1000001;
  static final int FULL = -1000002;
  static final int KIND = -1000003;
  static final int NONE = -1000004;
  static final int STATE = -1000005;
  static final int MISSING = -1000006;
  static final int SIZE = -1000007;

  private static int wrong = 0;

  private Due() {}

  static void is(String call, long got, long want) {
    if (got == want) return;
    wrong++;
    System.out.println(call + " answered " + got + ", due is " + want);
  }

  static void end() {
    System.out.println(wrong == 0 ? "all answers are as due" : wrong + " answers are not as due");
    if (wrong != 0) System.exit(1);
  }

  static void feed(WordHedge x, String text) {
    for (int i = 0; i < text.length(); i++) {
      x.feed(text.charAt(i), 1);
    }
  }

  static int read(WordHedge x, String text) {
    feed(x, text);
    return x.text();
  }

  static WordHedge told(String text) {
    WordHedge x = new WordHedge();
    int items = read(x, text);
    if (items < 0) is("text of " + text, items, 1);
    return x;
  }

  /** Sheet s becomes one of 32 bits with these numbers. */
  static void fill(WordHedge x, int s, int... numbers) {
    x.sheet(s, 32, numbers.length);
    for (int i = 0; i < numbers.length; i++) {
      x.write(s, i, numbers[i]);
    }
  }
}
