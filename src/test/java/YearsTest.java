/** Promises 10 to 16: years, and what will be. */
public final class YearsTest {
  public static void main(String[] args) {
    go();
    breaking();
    limits();
    now();
    ahead();
    strong();
    closedAndWhole();
    breaks();
    nothingChanges();
    lastYear();
    Due.end();
  }

  private static void go() {
    WordHedge x = Due.told("slip in 2;latin in 5 words 3 high 30 up;hurdles 1");
    Due.is("a year", x.go(1), 65535 - 1 - 4 - 32);
    Due.is("slip high", x.of(0, 2), 32);
    Due.is("slip thick", x.of(0, 3), 6);
    Due.is("latin high", x.of(1, 2), 39);
    Due.is("latin thick", x.of(1, 3), 8);
    Due.is("that was a latin of 30, not of 39", x.of(1, 8), 32);
    Due.is("one more", x.go(1), 65535 - 1 - 4 - 32 - 64 - 128);
    Due.is("year", x.now(0), 2);
    Due.is("sixty", x.go(60), 65535 - 1 - 4 - (32 + 64 + 128 + 256 + 512 + 1024 + 2048 + 4096 + 8192));
    Due.is("year then", x.now(0), 62);
    Due.is("high at most", x.of(0, 2), 199);
    Due.is("thick", x.of(0, 3), 67);
    Due.is("thick at most", x.of(1, 3), 99);
    Due.is("go 0", x.go(0), Due.BEYOND);
    Due.is("go -1", x.go(-1), Due.BEYOND);
    Due.is("go 61", x.go(61), Due.BEYOND);
    Due.is("year as it was", x.now(0), 62);
  }

  /** The strength of place 3 is 40 + 5 + 8: 53 doesn't break it, 54 does. */
  private static void breaking() {
    WordHedge x = Due.told("slip in 3;slipper in 2 high 101;slip in 2 high 41 up;hurdles 24;lean 0 3 50;lean 1 3 58");
    x.change(2, 3, 4);
    Due.is("strength", x.place(3, 0), 49);
    x.lean(0, 3, 49);
    x.go(1);
    Due.is("nothing broke", x.now(2), 0);
    Due.is("hurdles stay", x.now(3), 24);
    Due.is("strength then", x.place(3, 0), 40 + 6 + 7);
    x.lean(1, 3, 54);
    x.go(1);
    Due.is("it broke", x.now(2), 1);
    Due.is("its hurdle is gone", x.now(3), 16);
    Due.is("slip high", x.of(0, 2), 32 / 2 + 12);
    Due.is("slip thick", x.of(0, 3), 1 + 1);
    Due.is("slip broke", x.of(0, 6), 1);
    Due.is("the slipper stands by", x.of(1, 2), 101 + 3 + 3);
    Due.is("the slipper broke not", x.of(1, 6), 0);
    Due.is("the laid one, high", x.of(2, 2), 53 / 2 + 12);
    Due.is("the laid one, thick", x.of(2, 3), 2 + 3);
    Due.is("the laid one broke", x.of(2, 6), 1);
    Due.is("it covers no more", x.of(2, 8), 4);
    x.lean(2, 3, 3);
    x.go(1);
    Due.is("without a hurdle", x.now(2), 2);
    Due.is("thick 0 at least", x.of(0, 3), 1);
    Due.is("only that one", x.of(2, 6), 1);
    x.lean(3, 9, 1);
    x.go(1);
    Due.is("a gap breaks too", x.now(2), 3);
    x.go(2);
    Due.is("no weight, no gap", x.now(2), 3);
    x.lean(0, 9, 0);
    x.lean(1, 9, 0);
    x.lean(2, 9, 0);
    x.go(3);
    Due.is("the list is for the year by 6", x.now(2), 3);
    x.go(1);
    Due.is("a 4th", x.now(2), 4);
  }

  private static void limits() {
    WordHedge x = Due.told("slip");
    for (int i = 0; i < 6; i++) {
      x.lean(i, 0, 99);
    }
    x.change(0, 6, 9998);
    x.go(1);
    Due.is("broke 9999", x.of(0, 6), 9999);
    x.go(1);
    Due.is("broke 9999 at most", x.of(0, 6), 9999);
    for (int i = 0; i < 166; i++) {
      x.go(60);
    }
    Due.is("gaps made", x.now(2), 9962);
    x.go(37);
    Due.is("gaps made 9999", x.now(2), 9999);
    x.go(1);
    Due.is("gaps made 9999 at most", x.now(2), 9999);
    Due.is("no weight makes more", x.weightFor(0, 60), 99);
    Due.is("it can't break more", x.breaks(0), Due.NONE);
    Due.is("year", x.now(0), 10000);
  }

  private static void now() {
    WordHedge x = Due.told("slip in 2;slip in 2;slip in 1;hurdles 1;lean 0 5 9");
    x.change(0, 3, 30);
    x.change(1, 6, 4);
    x.go(1);
    int[] due = {1, 65535 - 7, 1, 1, 3, 31 + 6 + 6, 4, 96};
    for (int what = 0; what < due.length; what++) {
      Due.is("now " + what, x.now(what), due[what]);
    }
    x.hurdles(65534);
    Due.is("the weakest is a gap", x.now(4), 0);
    x.hurdles(65535 - 4);
    Due.is("the weakest is covered", x.now(4), 2);
    x.hurdles(65535 - 2 - 8);
    x.change(2, 3, 0);
    x.change(2, 1, 3);
    Due.is("of a gap and a weak one the least", x.now(4), 1);
    x.hurdles(65535);
    Due.is("of several the least", x.now(4), 0);
    Due.is("now -1", x.now(-1), Due.BEYOND);
    Due.is("now 8", x.now(8), Due.BEYOND);
  }

  private static void ahead() {
    WordHedge x = Due.told("slip in 2;may in 2 words 3 high 190 up;lean 1 4 99");
    int[] wanted = {2, 3, 6, 7, 9};
    int[] at0 = {190, 5, 0, 5, 5 + 9 + 5};
    int[] at1 = {199, 9, 0, 5, 9 + 9};
    int[] at2 = {112, 8, 1, 3, 8 + 9};
    for (int i = 0; i < wanted.length; i++) {
      Due.is("ahead 0, " + wanted[i], x.ahead(1, wanted[i], 0), at0[i]);
      Due.is("ahead 1, " + wanted[i], x.ahead(1, wanted[i], 1), at1[i]);
      Due.is("ahead 2, " + wanted[i], x.ahead(1, wanted[i], 2), at2[i]);
    }
    Due.is("may in year 5", x.ahead(1, 9, 5), 20 + 9 + 5);
    Due.is("a hundred years", x.ahead(0, 3, 100), 99);
    Due.is("94 years", x.ahead(0, 3, 93), 98);
    for (int what = -1; what <= 12; what++) {
      boolean asked = what == 2 || what == 3 || what == 6 || what == 7 || what == 9;
      if (!asked) Due.is("ahead of " + what, x.ahead(0, what, 1), Due.BEYOND);
    }
    Due.is("ahead -1", x.ahead(0, 2, -1), Due.BEYOND);
    Due.is("ahead 101", x.ahead(0, 2, 101), Due.BEYOND);
    Due.is("slip -1", x.ahead(-1, 2, 0), Due.BEYOND);
    Due.is("slip 2", x.ahead(2, 2, 0), Due.BEYOND);
  }

  private static void strong() {
    WordHedge x = Due.told("slip in 2;hurdles 12;lean 0 3 41;lean 1 2 40");
    Due.is("now", x.strong(2, 0), 45);
    Due.is("in a year", x.strong(2, 1), 46);
    Due.is("in a hundred", x.strong(2, 100), 139);
    Due.is("3 now", x.strong(3, 0), 40);
    Due.is("3 in a year", x.strong(3, 1), 0);
    Due.is("place -1", x.strong(-1, 0), Due.BEYOND);
    Due.is("place 16", x.strong(16, 0), Due.BEYOND);
    Due.is("strong -1", x.strong(0, -1), Due.BEYOND);
    Due.is("strong 101", x.strong(0, 101), Due.BEYOND);
  }

  private static void closedAndWhole() {
    WordHedge x = Due.told("slip in 2 high 0 up;latin in 8 high 0 up;hurdles 3");
    Due.is("its own place", x.closed(2), 0);
    Due.is("a hurdle", x.closed(1), 0);
    Due.is("next to it", x.closed(3), 4);
    Due.is("6 places on", x.closed(6), 14);
    Due.is("4 on at most", x.closed(7), Due.NONE);
    Due.is("two at a time", x.closed(10), 4);
    Due.is("the last", x.closed(15), 16);
    Due.is("place -1", x.closed(-1), Due.BEYOND);
    Due.is("place 16", x.closed(16), Due.BEYOND);
    Due.is("7 stays", x.whole(), Due.NONE);
    x.hurdles(128 + 64 + 3);
    Due.is("whole", x.whole(), 16);
    x.hurdles(65535);
    Due.is("whole now", x.whole(), 0);
    slowlyClosed();
  }

  /** Found by trying: leanings keep the hawthorns down so long that place 5 is closed in 201 years. */
  private static void slowlyClosed() {
    WordHedge x = Due.told("hawthorn in 3 words 9 high 15;hawthorn in 1 words 11 high 37 up;slipper in 3 words 10 high 13 down");
    x.change(0, 3, 0);
    x.change(1, 3, 2);
    x.change(2, 3, 27);
    int[] list = {81, 198, 85, 0, 134, 197};
    Due.fill(x, 0, list);
    Due.is("leanings", x.load(0), 6);
    x.hurdles(65535 - 32);
    Due.is("201 years is too late", x.closed(5), Due.NONE);
    Due.is("201 years is too late for all", x.whole(), Due.NONE);
    x.go(1);
    Due.is("200 years is not", x.closed(5), 200);
    x.go(1);
    Due.is("199 years then", x.closed(5), 199);
  }

  private static void breaks() {
    WordHedge x = Due.told("slip in 2;slip in 3;lean 3 2 8;lean 4 3 10");
    Due.is("in the 4th year it stands at 8", x.breaks(0), Due.NONE);
    x.lean(3, 2, 9);
    Due.is("it breaks at 9", x.breaks(0), 4);
    x.lean(0, 2, 6);
    Due.is("it breaks at once", x.breaks(0), 1);
    Due.is("the other breaks in the 5th", x.breaks(1), 5);
    x.change(0, 6, 9998);
    Due.is("9998 can be more", x.breaks(0), 1);
    x.change(0, 6, 9999);
    Due.is("9999 can't", x.breaks(0), Due.NONE);
    Due.is("breaks -1", x.breaks(-1), Due.BEYOND);
    Due.is("breaks 2", x.breaks(2), Due.BEYOND);
    brokenLate();
  }

  /** Found by trying: as the slip in 1 gets stronger, the latin loses the slipper that it covers in 201 years. */
  private static void brokenLate() {
    WordHedge x = Due.told("slipper in 2 words 1;latin words 12 high 27 up;slip in 1");
    x.change(0, 3, 58);
    x.change(1, 3, 23);
    x.change(2, 3, 50);
    Due.fill(x, 0, 159, 0, 238, 99, 194, 190);
    Due.is("leanings", x.load(0), 6);
    Due.is("201 years is too late", x.breaks(0), Due.NONE);
    x.go(1);
    Due.is("200 years is not", x.breaks(0), 200);
    x.go(1);
    Due.is("199 years then", x.breaks(0), 199);
  }

  private static void nothingChanges() {
    WordHedge x = Due.told("slip in 2 up;hurdles 4;lean 0 2 99;lean 1 2 99");
    x.ahead(0, 2, 9);
    x.strong(2, 9);
    x.closed(7);
    x.whole();
    x.breaks(0);
    Due.is("year", x.now(0), 0);
    Due.is("gaps made", x.now(2), 0);
    Due.is("hurdles", x.now(3), 4);
    Due.is("high", x.of(0, 2), 20);
    Due.is("thick", x.of(0, 3), 5);
    Due.is("broke", x.of(0, 6), 0);
  }

  /** No 512 calls come so far: this asks only what the words of the promises say of YEAR 99999. */
  private static void lastYear() {
    WordHedge x = Due.told("may in 2");
    for (int i = 0; i < 1666; i++) {
      x.go(60);
    }
    Due.is("37 years more", x.go(37), 65535 - 4);
    Due.is("3 are too many", x.go(3), Due.STATE);
    Due.is("3 are too many draws", x.leans(3), Due.STATE);
    x.image();
    Due.is("2 years of draws", x.leans(2), 65535 - 4);
    Due.is("undo", x.undo(), 99997);
    Due.is("2 years more", x.go(2), 65535 - 4);
    Due.is("year", x.now(0), 99999);
    Due.is("go 1", x.go(1), Due.STATE);
    Due.is("go 60", x.go(60), Due.STATE);
    Due.is("go 61", x.go(61), Due.BEYOND);
    Due.is("leans 1", x.leans(1), Due.STATE);
    Due.is("leans 21", x.leans(21), Due.BEYOND);
    Due.is("no draw", x.count(6), 1);
    x.lean(99999 % 6, 5, 7);
    Due.is("no leaning", x.leaning(99999 % 6), 507);
    Due.is("year 99999 at most", x.ahead(0, 9, 1), 99 + 8);
    Due.is("states", x.status(4), 5);
  }
}
