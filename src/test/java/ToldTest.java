/** Promises 23 to 28: told hedges, leanings by draws. */
public final class ToldTest {
  public static void main(String[] args) {
    words();
    kinds();
    fits();
    wrongSheets();
    leans();
    odds();
    seed();
    Due.end();
  }

  private static void words() {
    WordHedge x = Due.told("slip in 1;hawthorn in 3 words 5 high 30 up");
    Due.fill(x, 0);
    Due.is("nothing is told", x.words(0, 1), 8190);
    Due.fill(x, 0, 30);
    Due.is("high now", x.words(0, 1), 8190);
    Due.fill(x, 0, 31);
    Due.is("high it isn't", x.words(0, 1), 0);
    Due.fill(x, 0, 30, 38);
    Due.is("grown by 8", x.words(0, 1), 1 << 4);
    Due.fill(x, 0, -1, -1, 32);
    Due.is("grown by 1 twice", x.words(0, 1), 1 << 11);
    Due.fill(x, 0, -1, -1, -2);
    Due.is("-2 is not any", x.words(0, 1), 0);
    Due.is("a slip grows as it does", x.words(0, 0), 0);
    Due.fill(x, 0, 20, 32, 44);
    Due.is("of any words", x.words(0, 0), 8190);
    x.lean(0, 4, 15);
    Due.fill(x, 0, 30, 24);
    Due.is("of 3 words it reaches 4 and breaks", x.words(0, 1), 8);
    Due.fill(x, 0, 30, 40);
    Due.is("of 2 words it reaches 4 and is strong enough", x.words(0, 1), 4);
    Due.fill(x, 0, 30, 25);
    Due.is("of 2 words it doesn't break", x.words(0, 1), 0);
    x.lean(0, 4, 16);
    Due.is("now it does", x.words(0, 1), 4);
    Due.is("words as they were", x.of(1, 5), 5);
    Due.is("high as it was", x.of(1, 2), 30);
    Due.is("year as it was", x.now(0), 0);
  }

  private static void kinds() {
    WordHedge x = Due.told("elegy in 3 words 2 high 30");
    Due.fill(x, 0);
    Due.is("nothing is told", x.kinds(0, 0), 127);
    Due.fill(x, 0, 30, 42);
    Due.is("by 12", x.kinds(0, 0), 1 + 4);
    Due.fill(x, 0, 30, 44);
    Due.is("by 14", x.kinds(0, 0), 8 + 64);
    Due.fill(x, 0, -1, 40);
    Due.is("by 10", x.kinds(0, 0), 2);
    Due.fill(x, 0, -1, 37);
    Due.is("by 7", x.kinds(0, 0), 16);
    Due.fill(x, 0, -1, -1, 36);
    Due.is("by 3 twice", x.kinds(0, 0), 32);
    Due.is("kind as it was", x.of(0, 0), 4);
  }

  private static void fits() {
    WordHedge x = Due.told("slip in 1 high 40 up;promise in 3;hurdles 1");
    Due.fill(x, 0);
    Due.is("nothing is told", x.fits(0, 0), 65535);
    Due.fill(x, 0, 40, 5, 5);
    Due.is("in 1", x.fits(0, 0), 2);
    Due.fill(x, 0, 45, 5);
    Due.is("in 0", x.fits(0, 0), 1);
    Due.fill(x, 0, 40, 0);
    Due.is("farther on", x.fits(0, 0), 65535 - 3);
    Due.fill(x, 0, -1, -1, -1, 20);
    Due.is("with the other", x.fits(0, 0), 12);
    int[] many = new int[40];
    java.util.Arrays.fill(many, -1);
    many[15] = 5;
    many[16] = 77;
    Due.fill(x, 0, many);
    Due.is("beyond 16 nothing is asked", x.fits(0, 0), 16384 + 32768);
    many[15] = -5;
    Due.fill(x, 0, many);
    Due.is("-5 is not any", x.fits(0, 0), 0);
    Due.is("place as it was", x.of(0, 1), 1);
  }

  private static void wrongSheets() {
    WordHedge x = Due.told("slip");
    x.sheet(0, 8, 0);
    int[] wrong = {-1, 4};
    for (int s : wrong) {
      Due.is("words, sheet " + s, x.words(s, 9), Due.BEYOND);
      Due.is("kinds, sheet " + s, x.kinds(s, 9), Due.BEYOND);
      Due.is("fits, sheet " + s, x.fits(s, 9), Due.BEYOND);
    }
    Due.is("words, missing ahead of no slip", x.words(3, 9), Due.MISSING);
    Due.is("kinds, missing ahead of no slip", x.kinds(3, 9), Due.MISSING);
    Due.is("fits, missing ahead of no slip", x.fits(3, 9), Due.MISSING);
    int[] none = {-1, 1};
    for (int slip : none) {
      Due.is("words, slip " + slip, x.words(0, slip), Due.BEYOND);
      Due.is("kinds, slip " + slip, x.kinds(0, slip), Due.BEYOND);
      Due.is("fits, slip " + slip, x.fits(0, slip), Due.BEYOND);
    }
  }

  /** z from 1: 1103527590, 2524885223, 662824084, 3295386429: by 256 4310654, 9862832, 2589156, 12872603. */
  private static void leans() {
    WordHedge x = new WordHedge();
    Due.is("leans", x.leans(1), 65535);
    Due.is("first draw by 16, second by 100", x.leaning(0), 100 * (4310654 % 16) + 9862832 % 100);
    Due.is("z", x.count(6), (int) 2524885223L);
    Due.is("a year", x.now(0), 1);
    Due.is("it broke", x.now(2), 1);
    x.hurdles(65535 - 8);
    Due.is("leans again", x.leans(1), 8);
    Due.is("this year's", x.leaning(1), 100 * (2589156 % 16) + 12872603 % 100);
    Due.is("weight 3 breaks no hurdle", x.now(2), 1);
    Due.is("leans 0", x.leans(0), Due.BEYOND);
    Due.is("leans 21", x.leans(21), Due.BEYOND);
    Due.is("z as it was", x.count(6), (int) 3295386429L);
    int first = x.leaning(0);
    x.leans(20);
    Due.is("20 years", x.now(0), 22);
    Due.is("40 draws", x.leaning(0) == first ? 1 : 0, 0);
    Due.is("z then", x.count(6), after(44));
  }

  private static int after(int draws) {
    int z = 1;
    for (int i = 0; i < draws; i++) {
      z = z * 1103515245 + 12345;
    }
    return z;
  }

  private static void odds() {
    WordHedge x = new WordHedge();
    x.hurdles(15);
    Due.is("12 of 16, above", x.odds(40, 1, 0), 3);
    Due.is("12 of 16, below", x.odds(40, 1, 1), 4);
    Due.is("all, above", x.odds(41, 9, 0), 1);
    Due.is("all, below", x.odds(41, 9, 1), 1);
    Due.is("none, above", x.odds(0, 3, 0), 0);
    Due.is("none, below", x.odds(0, 3, 1), 1);
    Due.is("no place of none, above", x.odds(0, 0, 0), 1);
    Due.is("no place of none, below", x.odds(0, 0, 1), 1);
    x.hurdles(1);
    Due.is("15 of 16, above", x.odds(1, 15, 0), 437893890380859375L);
    Due.is("15 of 16, below", x.odds(1, 15, 1), 1L << 60);
    x.hurdles(255);
    Due.is("half, above", x.odds(1, 15, 0), 1);
    Due.is("half, below", x.odds(1, 15, 1), 32768);
    Due.is("weight -1", x.odds(-1, 0, 0), Due.BEYOND);
    Due.is("weight 99", x.odds(99, 0, 0), 1);
    Due.is("weight 100", x.odds(100, 0, 0), Due.BEYOND);
    Due.is("n -1", x.odds(0, -1, 0), Due.BEYOND);
    Due.is("n 16", x.odds(0, 16, 0), Due.BEYOND);
    Due.is("what -1", x.odds(0, 0, -1), Due.BEYOND);
    Due.is("what 2", x.odds(0, 0, 2), Due.BEYOND);
    Due.is("findings", x.status(0), 6);
    Due.is("z as it was", x.count(6), 1);
  }

  private static void seed() {
    WordHedge x = new WordHedge();
    Due.is("seed -1000001", x.seed(-1000001), 1);
    Due.is("seed of a finding is none", x.seed(-2147483648), -1000001);
    Due.is("z", x.count(6), -2147483648);
    Due.is("no findings", x.status(-1), 0);
    x.leans(1);
    Due.is("by draws", x.leaning(0), 100 * (((-2147483648 + 12345) >>> 8) % 16) + second() % 100);
  }

  private static int second() {
    return ((-2147483648 + 12345) * 1103515245 + 12345) >>> 8;
  }
}
