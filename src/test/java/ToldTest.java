import java.util.Arrays;

/** Promises 23 to 28, sentence by sentence: told hedges, leanings by draws. */
public final class ToldTest {
  public static void main(String[] args) {
    Doc.part("Ahead of the calls `words`", "Ahead of the calls `leans`");
    nothingChanges();
    Doc.promise(23);
    words();
    wordsRefused();
    Doc.promise(24);
    kinds();
    kindsRefused();
    Doc.promise(25);
    fits();
    fitsRefused();
    Doc.promise(26);
    leans();
    leansBeyond();
    leansState();
    Doc.promise(27);
    odds();
    oddsBeyond();
    Doc.promise(28);
    seed();
    Doc.end();
  }

  private static void nothingChanges() {
    Doc.says("Ahead of the calls `words`, `kinds`, `fits` the interface says: ---- told hedges.");
    Edge.changesNothing("words", x -> x.words(2, 1));
    Edge.changesNothing("kinds", x -> x.kinds(2, 1));
    Edge.changesNothing("fits", x -> x.fits(2, 1));
  }

  /** The high of a slip that grows by so much, for forty years. */
  private static int[] grown(int high, int by) {
    int[] told = new int[40];
    for (int n = 0; n < 40; n++) {
      told[n] = Math.min(199, high + n * by);
    }
    return told;
  }

  private static void words() {
    Doc.says("Of how many WORDS a SLIP could be, as a set (bits 1 to 12), "
        + "so that HIGH of it now and behind each YEAR further on is as a sheet tells (-1: any).");
    WordHedge x = Due.told("slip in 1;hawthorn in 3 words 5 high 30 up");
    Due.fill(x, 0);
    Due.is("nothing is told", x.words(0, 1), 8190);
    Due.fill(x, 0, 30);
    Due.is("high now", x.words(0, 1), 8190);
    Due.fill(x, 0, 31);
    Due.is("high it isn't", x.words(0, 1), 0);
    Due.fill(x, 0, 30, 41);
    Due.is("grown by 11", x.words(0, 1), 1 << 1);
    Due.fill(x, 0, 30, 30);
    Due.is("grown by 0", x.words(0, 1), 1 << 12);
    Due.fill(x, 0, 30, 42);
    Due.is("grown by 12", x.words(0, 1), 0);
    Due.fill(x, 0, -1, -1, 32);
    Due.is("grown by 1 twice", x.words(0, 1), 1 << 11);
    Due.fill(x, 0, -1, -1, -2);
    Due.is("-2 is not any", x.words(0, 1), 0);
    Due.fill(x, 0, 20, 32, 44);
    Due.is("of any words", x.words(0, 0), 8190);
    Due.is("but not the other", x.words(0, 1), 0);
    fortyNumbers();
    lived();
  }

  private static void fortyNumbers() {
    WordHedge x = Due.told("hawthorn words 7 high 3");
    Due.fill(x, 0, grown(3, 4));
    Due.is("forty numbers", x.words(0, 0), 1 << 8);
    x.write(0, 39, 160);
    Due.is("the last isn't so", x.words(0, 0), 0);
    x.write(0, 39, -1);
    Due.is("the last may be any", x.words(0, 0), 1 << 8);
    Due.fill(x, 0, grown(-1, 0));
    Due.is("any at all", x.words(0, 0), 8190);
    x.write(0, 39, 199);
    Due.is("199 at most: by 6 and more", x.words(0, 0), 126);
    Due.fillBits(x, 1, 8, -1, -1, 127);
    Due.is("8 bits tell 127 at most", x.words(1, 0), 0);
    x.change(0, 2, 105);
    Due.is("105 and twice 11", x.words(1, 0), 2);
    x.write(1, 2, 128);
    x.change(0, 2, 106);
    Due.is("128 of 8 bits is -128", x.words(1, 0), 0);
  }

  /** The list leans meanwhile. */
  private static void lived() {
    WordHedge x = Due.told("slip in 1;hawthorn in 3 words 5 high 30 up;lean 0 4 15");
    Due.fill(x, 0, 30, 24);
    Due.is("of 3 words it reaches 4 and breaks", x.words(0, 1), 8);
    Due.fill(x, 0, 30, 40);
    Due.is("of 2 words it reaches 4 and is strong enough", x.words(0, 1), 4);
    Due.fill(x, 0, 30, 25);
    Due.is("of 2 words it doesn't break", x.words(0, 1), 0);
    x.lean(0, 4, 16);
    Due.is("now it does", x.words(0, 1), 4);
    Due.traits(x, "it is as it was", 1, 1, 3, 30, 5, 1, 5, 0);
    Due.is("year as it was", x.now(0), 0);
  }

  private static void wordsRefused() {
    Doc.says("BEYOND: no such sheet.");
    Edge.range("sheet", 0, 3, (x, v) -> x.words(v, 0));
    Edge.refused("no such sheet, no such slip", Due.BEYOND, x -> x.words(4, 3));
    Doc.says("MISSING.");
    Edge.refused("a missing sheet", Due.MISSING, x -> x.words(3, 0));
    Edge.refused("a missing sheet, no such slip", Due.MISSING, x -> x.words(3, 3));
    Edge.refused("none is there", Due.MISSING, WordHedge::new, x -> x.words(0, 0));
    Doc.says("BEYOND: no such SLIP.");
    Edge.range("slip", 0, 2, (x, v) -> x.words(2, v));
  }

  private static void kinds() {
    Doc.says("KINDS that it could be of, as a set, likewise.");
    WordHedge x = Due.told("elegy in 3 words 2 high 30");
    int[] due = {1 + 4, 2, 1 + 4, 8 + 64, 16, 32, 8 + 64};
    int[] by = {12, 10, 12, 14, 7, 3, 14};
    Due.fill(x, 0);
    Due.is("nothing is told", x.kinds(0, 0), 127);
    for (int kind = 0; kind < 7; kind++) {
      Due.fill(x, 0, 30, 30 + by[kind]);
      Due.is("by " + by[kind], x.kinds(0, 0), due[kind]);
    }
    Due.fill(x, 0, -1, -1, 36);
    Due.is("by 3 twice", x.kinds(0, 0), 32);
    Due.fill(x, 0, 31, -1);
    Due.is("high it isn't now", x.kinds(0, 0), 0);
    Due.fill(x, 0, 30, 36);
    Due.is("by none", x.kinds(0, 0), 0);
    Due.fill(x, 0, -1, -1);
    Due.is("any", x.kinds(0, 0), 127);
    Due.fill(x, 0, grown(30, 3));
    Due.is("forty numbers", x.kinds(0, 0), 32);
    x.write(0, 39, 30 + 3 * 39 + 1);
    Due.is("the last isn't so", x.kinds(0, 0), 0);
    Due.is("kind as it was", x.of(0, 0), 4);
    x.lean(0, 3, 6);
    Due.fill(x, 0, -1, 15 + 12);
    Due.is("a slip would break, a promise would not", x.kinds(0, 0), 1);
  }

  private static void kindsRefused() {
    Doc.says("BEYOND: no such sheet.");
    Edge.range("sheet", 0, 3, (x, v) -> x.kinds(v, 0));
    Edge.refused("no such sheet, no such slip", Due.BEYOND, x -> x.kinds(4, 3));
    Doc.says("MISSING.");
    Edge.refused("a missing sheet", Due.MISSING, x -> x.kinds(3, 0));
    Edge.refused("a missing sheet, no such slip", Due.MISSING, x -> x.kinds(3, 3));
    Doc.says("BEYOND: no such SLIP.");
    Edge.range("slip", 0, 2, (x, v) -> x.kinds(2, v));
  }

  private static void fits() {
    Doc.says("PLACES IN which it could be now, as a set, so that STRENGTH of PLACES 0, 1, .. is now as a sheet tells "
        + "(-1: any; beyond the first 16 nothing is asked).");
    WordHedge x = Due.told("slip in 1 high 40 up;promise in 3;hurdles 1");
    Due.fill(x, 0);
    Due.is("nothing is told", x.fits(0, 0), 65535);
    Due.fill(x, 0, 40, 5, 5);
    Due.is("in 1", x.fits(0, 0), 2);
    Due.fill(x, 0, 45, 5);
    Due.is("in 0", x.fits(0, 0), 1);
    Due.fill(x, 0, 40, 0);
    Due.is("farther on", x.fits(0, 0), 65535 - 3);
    Due.fill(x, 0, -1, -1, -1, 20);
    Due.is("with the other", x.fits(0, 0), 12);
    Due.fill(x, 0, 39);
    Due.is("nowhere", x.fits(0, 0), 0);
    int[] many = new int[40];
    Arrays.fill(many, -1);
    many[15] = 5;
    Due.fill(x, 0, many);
    Due.is("the 16th is asked", x.fits(0, 0), 16384 + 32768);
    Arrays.fill(many, 16, 40, 77);
    Due.fill(x, 0, many);
    Due.is("a 17th is not", x.fits(0, 0), 16384 + 32768);
    Due.fill(x, 0, Arrays.copyOf(many, 16));
    Due.is("sixteen are enough", x.fits(0, 0), 16384 + 32768);
    many[15] = -5;
    Due.fill(x, 0, many);
    Due.is("-5 is not any", x.fits(0, 0), 0);
    Due.is("place as it was", x.of(0, 1), 1);
  }

  private static void fitsRefused() {
    Doc.says("BEYOND: no such sheet.");
    Edge.range("sheet", 0, 3, (x, v) -> x.fits(v, 0));
    Edge.refused("no such sheet, no such slip", Due.BEYOND, x -> x.fits(4, 3));
    Doc.says("MISSING.");
    Edge.refused("a missing sheet", Due.MISSING, x -> x.fits(3, 0));
    Edge.refused("a missing sheet, no such slip", Due.MISSING, x -> x.fits(3, 3));
    Doc.says("BEYOND: no such SLIP.");
    Edge.range("slip", 0, 2, (x, v) -> x.fits(2, v));
  }

  /** z from 1: 1103527590, 2524885223, 662824084, 3295386429: by 256 4310654, 9862832, 2589156, 12872603. */
  private static void leans() {
    Doc.says("n times (1 to 20) two draws: THE LIST tells for this YEAR a LEANING "
        + "AT the PLACE of the first one's rest by 16 "
        + "with a WEIGHT that is the second one's rest by 100; then a YEAR: GAPS then, as a set.");
    WordHedge x = new WordHedge();
    Due.is("once", x.leans(1), 65535);
    Due.is("at 14, with 32", x.leaning(0), 100 * (4310654 % 16) + 9862832 % 100);
    Due.is("z", x.count(6), (int) 2524885223L);
    Due.is("a year", x.now(0), 1);
    Due.is("it broke", x.now(2), 1);
    x.hurdles(65535 - 8);
    Due.is("once more", x.leans(1), 8);
    Due.is("at 4, with 3", x.leaning(1), 100 * (2589156 % 16) + 12872603 % 100);
    Due.is("no hurdle breaks", x.now(2), 1);
    x.leans(4);
    int first = x.leaning(0);
    x.leans(1);
    Due.is("in year 6 place 0 again", x.leaning(0) == first ? 1 : 0, 0);
    Due.is("years", x.now(0), 7);
    Due.is("14 draws", x.count(6), after(14));
    x.leans(20);
    Due.is("20 years more", x.now(0), 27);
    Due.is("54 draws", x.count(6), after(54));
    WordHedge y = Due.told("hurdles 65535");
    Due.is("the gap that it made", seededToBreak(y), 1 << y.leaning(0) / 100);
  }

  /** The seed is one with which the first draws lean with more than a hurdle bears. */
  private static int seededToBreak(WordHedge x) {
    x.image();
    for (int seed = 0; seed < 100; seed++) {
      x.undo();
      x.seed(seed);
      int gaps = x.leans(1);
      if (x.leaning(0) % 100 > 40) return gaps;
    }
    return -1;
  }

  private static int after(int draws) {
    int z = 1;
    for (int i = 0; i < draws; i++) {
      z = z * 1103515245 + 12345;
    }
    return z;
  }

  private static void leansBeyond() {
    Doc.says("BEYOND.");
    Edge.range("times", 1, 20, (x, v) -> x.leans(v));
  }

  /** No 512 calls come so far: this asks only what the words say of YEAR 99999. */
  private static void leansState() {
    Doc.says("STATE: YEAR would be above 99999.");
    WordHedge x = Due.told("may in 2;lean 3 5 7");
    Due.goTo(x, 99997);
    Due.is("3 are too many", x.leans(3), Due.STATE);
    Due.is("no draw", x.count(6), 1);
    Due.is("no leaning", x.leaning(99997 % 6), 0);
    Due.is("no year", x.now(0), 99997);
    Due.is("2 are not", x.leans(2), 65535 - 4);
    Due.is("year", x.now(0), 99999);
    Due.is("1 is too many", x.leans(1), Due.STATE);
    Due.is("20 are too many", x.leans(20), Due.STATE);
    Due.is("21 are beyond", x.leans(21), Due.BEYOND);
    Due.is("none are beyond", x.leans(0), Due.BEYOND);
    Due.is("the leaning stays", x.leaning(99999 % 6), 507);
    Due.is("states", x.status(4), 3);
  }

  private static void isOdds(WordHedge x, String name, int weight, int n, long above, long below) {
    Due.is(name + ", above", x.odds(weight, n, 0), above);
    Due.is(name + ", below", x.odds(weight, n, 1), below);
  }

  private static void odds() {
    Doc.says("The odds that n (0 to 15) PLACES, each the rest by 16 of a draw, are all such as break by "
        + "a WEIGHT (0 to 99) now: "
        + "a fraction in lowest terms: above (what 0), below the line (1).");
    WordHedge x = new WordHedge();
    isOdds(x, "16 of 16", 1, 15, 1, 1);
    isOdds(x, "none of 16 by weight 0", 0, 15, 0, 1);
    isOdds(x, "no place", 1, 0, 1, 1);
    isOdds(x, "no place, when none would break", 0, 0, 1, 1);
    x.hurdles(1);
    isOdds(x, "15 of 16, 15 times", 1, 15, 437893890380859375L, 1L << 60);
    isOdds(x, "15 of 16, once", 40, 1, 15, 16);
    isOdds(x, "all by more than 40", 41, 15, 1, 1);
    x.hurdles(32767);
    isOdds(x, "1 of 16, 15 times", 40, 15, 1, 1L << 60);
    x.hurdles(15);
    isOdds(x, "12 of 16", 40, 1, 3, 4);
    isOdds(x, "12 of 16, twice", 40, 2, 9, 16);
    x.hurdles(255);
    isOdds(x, "half, 15 times", 1, 15, 1, 32768);
    isOdds(x, "all by 99", 99, 7, 1, 1);
    x.hurdles(65535);
    isOdds(x, "none by 40", 40, 1, 0, 1);
    isOdds(x, "no place of none", 40, 0, 1, 1);
    Due.is("no draw was made", x.count(6), 1);
    Edge.changesNothing("odds", y -> y.odds(9, 9, 0));
  }

  private static void oddsBeyond() {
    Doc.says("BEYOND.");
    Edge.range("weight", 0, 99, (x, v) -> x.odds(v, 15, 1));
    Edge.range("places", 0, 15, (x, v) -> x.odds(99, v, 1));
    Edge.range("what", 0, 1, (x, v) -> x.odds(99, 15, v));
    Due.is("a long", new WordHedge().odds(-1, 0, 0), -1000001L);
  }

  private static void seed() {
    Doc.says("z becomes v: what it was.");
    WordHedge x = new WordHedge();
    Due.is("seed 0", x.seed(0), 1);
    Due.is("seed of the least", x.seed(Integer.MIN_VALUE), 0);
    Due.is("seed of the greatest", x.seed(Integer.MAX_VALUE), Integer.MIN_VALUE);
    Due.is("seed -1000001", x.seed(-1000001), Integer.MAX_VALUE);
    Due.is("which is no finding", x.seed(Integer.MIN_VALUE), -1000001);
    Due.is("z", x.count(6), Integer.MIN_VALUE);
    Due.is("no findings", x.status(-1), 0);
    x.leans(1);
    int first = Integer.MIN_VALUE + 12345;
    int second = first * 1103515245 + 12345;
    Due.is("draws of it", x.leaning(0), 100 * ((first >>> 8) % 16) + (second >>> 8) % 100);
  }
}
