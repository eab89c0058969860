/** Promises 17 to 22: how to lay. */
public final class LayTest {
  public static void main(String[] args) {
    lay();
    plant();
    kindFor();
    weightFor();
    layAll();
    hurdlesFor();
    nothingChanges();
    Due.end();
  }

  private static void lay() {
    WordHedge x = Due.told("slip in 2 high 80 up;slip in 8 high 40;slip in 9 high 0");
    Due.is("upright of several", x.lay(2, 0), 0);
    Due.is("to greater ones", x.lay(0, 0), 1);
    Due.is("9 is covered: to lesser ones", x.lay(1, 0), 2);
    x.hurdles(128);
    Due.is("no way is better", x.lay(1, 0), 0);
    Due.is("in 60 years to greater ones", x.lay(2, 60), 1);
    x.hurdles(0);
    Due.is("two ways of three places", x.lay(0, 0), 1);
    x.lean(0, 4, 99);
    Due.is("there it breaks", x.lay(0, 1), 2);
    Due.is("lay -1", x.lay(-1, 0), Due.BEYOND);
    Due.is("lay 3", x.lay(3, 0), Due.BEYOND);
    Due.is("behind -1", x.lay(0, -1), Due.BEYOND);
    Due.is("behind 61", x.lay(0, 61), Due.BEYOND);
  }

  private static void plant() {
    WordHedge x = Due.told("slip in 2 high 80 up;slip in 5;hurdles 3");
    Due.is("in 2", x.plant(0, 0), 2);
    Due.is("the least", x.plant(1, 0), 5);
    x.hurdles(7);
    Due.is("beside it", x.plant(0, 0), 6);
    x.hurdles(65535);
    Due.is("none is open", x.plant(0, 0), 0);
    x.hurdles(32767 - 32);
    Due.is("in the last", x.plant(0, 0), 13);
    Due.is("in 5 or in 15", x.plant(1, 0), 5);
    Due.is("in 4 years the other covers 5", x.plant(1, 4), 15);
    x.hurdles(3);
    Due.is("60 years: it reaches 4 places", x.plant(0, 60), 6);
    Due.is("plant -1", x.plant(-1, 0), Due.BEYOND);
    Due.is("plant 2", x.plant(2, 0), Due.BEYOND);
    Due.is("behind -1", x.plant(0, -1), Due.BEYOND);
    Due.is("behind 61", x.plant(0, 61), Due.BEYOND);
  }

  private static void kindFor() {
    WordHedge x = Due.told("slip in 3 words 12 high 9");
    Due.is("a promise, the least of three", x.kindFor(0, 0), 4);
    x.change(0, 2, 4);
    Due.is("an elegy of no height is a promise", x.kindFor(0, 0), 2);
    x.change(0, 4, 1);
    Due.is("when it is laid, a may in year 0", x.kindFor(0, 0), 6);
    x.change(0, 2, 0);
    Due.is("a hawthorn, or a may, grows in thickness", x.kindFor(0, 1), 1);
    Due.is("in the 5th year a may", x.kindFor(0, 5), 6);
    Due.is("in 60 years an elegy", x.kindFor(0, 60), 4);
    Due.is("slip -1", x.kindFor(-1, 0), Due.BEYOND);
    Due.is("slip 1", x.kindFor(1, 0), Due.BEYOND);
    Due.is("behind -1", x.kindFor(0, -1), Due.BEYOND);
    Due.is("behind 61", x.kindFor(0, 61), Due.BEYOND);
    WordHedge y = Due.told("slip in 3;slip in 5;hurdles 8");
    y.change(0, 3, 99);
    y.change(1, 5, 2);
    Due.is("only its own place", y.kindFor(1, 0), 6);
  }

  private static void weightFor() {
    WordHedge x = Due.told("slip in 3;lean 0 3 77;lean 2 5 1");
    Due.is("nothing leans in 0 years", x.weightFor(0, 0), 99);
    Due.is("as strong as it is", x.weightFor(0, 1), 5);
    Due.is("as strong as it is, in the 2nd", x.weightFor(0, 2), 5);
    Due.is("another breaks", x.weightFor(0, 3), Due.NONE);
    Due.is("that one holds", x.weightFor(2, 60), Due.NONE);
    x.lean(0, 3, 5);
    Due.is("a gap bears nothing", x.weightFor(2, 60), 0);
    Due.is("so much till then", x.weightFor(2, 2), 99);
    x.lean(2, 3, 3);
    Due.is("it fills", x.weightFor(2, 60), 7);
    Due.is("its place stays", x.leaning(2), 303);
    Due.is("place -1", x.weightFor(-1, 0), Due.BEYOND);
    Due.is("place 6", x.weightFor(6, 0), Due.BEYOND);
    Due.is("behind -1", x.weightFor(0, -1), Due.BEYOND);
    Due.is("behind 61", x.weightFor(0, 61), Due.BEYOND);
  }

  private static void layAll() {
    WordHedge x = Due.told("slip in 1 high 80 up;slip in 5 high 40 down;slip in 2 high 79;hurdles 65415");
    Due.is("the first as it is, the others upright", x.now(1), 64);
    Due.is("3 and 4 and 6 are wanted", x.layAll(0), Due.NONE);
    x.hurdles(65415 + 16);
    Due.is("slips 0 or 2, and 1: the least", x.layAll(0), 3);
    x.hurdles(65415 + 16 + 64);
    Due.is("one", x.layAll(0), 1);
    x.hurdles(65415 + 16 + 64 + 8);
    Due.is("none", x.layAll(0), 0);
    x.hurdles(65535 - 64);
    Due.is("the second", x.layAll(0), 2);
    x.hurdles(65535 - 16 - 64);
    Due.is("the second, and in a year the third", x.layAll(1), 6);
    Due.is("in 12 years the third is high enough alone", x.layAll(12), 4);
    x.lean(0, 5, 46);
    Due.is("it would break", x.layAll(1), Due.NONE);
    Due.is("behind -1", x.layAll(-1), Due.BEYOND);
    Due.is("behind 41", x.layAll(41), Due.BEYOND);
    Due.is("behind 40", x.layAll(40), 4);
    WordHedge y = new WordHedge();
    Due.is("no slips", y.layAll(0), Due.NONE);
    y.hurdles(65535);
    Due.is("no slips, all hurdles", y.layAll(0), 0);
    WordHedge z = new WordHedge();
    for (int i = 0; i < 8; i++) {
      z.slip(6, 2 * i, 1);
    }
    Due.is("all eight", z.layAll(0), 255);
    z.hurdles(1 << 9);
    Due.is("all but one", z.layAll(0), 255 - 16);
  }

  private static void hurdlesFor() {
    WordHedge x = Due.told("slip in 1 high 80 up;slip in 5 high 35 down;hurdles 65535;lean 0 1 99;lean 1 4 99");
    Due.is("now", x.hurdlesFor(0), 16 - 4);
    Due.is("in a year", x.hurdlesFor(1), 16 - 5);
    Due.is("in 2 years nothing has leaned", x.hurdlesFor(2), 16 - 5);
    Due.is("in 60", x.hurdlesFor(60), 16 - 5);
    Due.is("behind -1", x.hurdlesFor(-1), Due.BEYOND);
    Due.is("behind 61", x.hurdlesFor(61), Due.BEYOND);
    Due.is("hurdles stay", x.now(3), 65535);
    Due.is("leanings stay", x.leaning(0), 199);
  }

  private static void nothingChanges() {
    WordHedge x = Due.told("slip in 2 up;hurdles 4;lean 0 2 99;lean 1 2 99");
    x.lay(0, 9);
    x.plant(0, 9);
    x.kindFor(0, 9);
    x.weightFor(0, 9);
    x.layAll(9);
    x.hurdlesFor(9);
    int[] due = {0, 2, 20, 5, 1, 4, 0};
    for (int what = 0; what < due.length; what++) {
      Due.is("trait " + what, x.of(0, what), due[what]);
    }
    Due.is("year", x.now(0), 0);
    Due.is("gaps made", x.now(2), 0);
    Due.is("hurdles", x.now(3), 4);
    Due.is("leaning", x.leaning(0), 299);
  }
}
