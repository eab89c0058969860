/** Promises 10 to 16, sentence by sentence: years, and what will be. */
public final class YearsTest {
  public static void main(String[] args) {
    Doc.promise(10);
    go();
    goBeyond();
    goState();
    Doc.promise(11);
    now();
    nowBeyond();
    Doc.part("Ahead of the calls `ahead`", "Ahead of the calls `lay`");
    nothingChanges();
    Doc.promise(12);
    ahead();
    aheadBeyond();
    Doc.promise(13);
    strong();
    strongBeyond();
    Doc.promise(14);
    closed();
    closedBeyond();
    closedNone();
    Doc.promise(15);
    whole();
    wholeNone();
    Doc.promise(16);
    breaks();
    breaksBeyond();
    breaksNone();
    Doc.end();
  }

  private static void go() {
    Doc.says("n YEARS (1 to 60): GAPS (PLACES), as a set, then.");
    WordHedge x = Due.told("slip in 2;latin in 5 words 3 high 30 up;hurdles 1");
    Due.is("a year: a latin of 30 grows to 39", x.go(1), 65535 - 1 - 4 - 32);
    Due.is("slip high", x.of(0, 2), 32);
    Due.is("slip thick", x.of(0, 3), 6);
    Due.is("latin high", x.of(1, 2), 39);
    Due.is("latin thick", x.of(1, 3), 8);
    Due.is("one more: it grows to 48", x.go(1), 65535 - 1 - 4 - 32 - 64 - 128);
    Due.is("year", x.now(0), 2);
    Due.is("sixty", x.go(60), 65535 - 1 - 4 - (511 << 5));
    Due.is("year then", x.now(0), 62);
    Due.is("none is open", Due.told("hurdles 65535").go(60), 0);
    Due.is("all are", Due.told("hurdles 0").go(1), 65535);
    Due.is("the gap that the year made", Due.told("hurdles 65535;lean 0 15 41").go(1), 32768);
    sixtyAreSixtyTimesOne();
  }

  private static void sixtyAreSixtyTimesOne() {
    WordHedge x = Edge.full();
    WordHedge twin = Edge.full();
    int gaps = 0;
    for (int i = 0; i < 60; i++) {
      gaps = twin.go(1);
    }
    Due.is("sixty at once", x.go(60), gaps);
    for (int what = 0; what <= 7; what++) {
      Due.is("now " + what + " behind sixty", x.now(what), twin.now(what));
    }
  }

  private static void goBeyond() {
    Doc.says("BEYOND.");
    Edge.range("years", 1, 60, (x, v) -> x.go(v));
    Edge.refused("no years", Due.BEYOND, x -> x.go(0));
  }

  /** No 512 calls come so far: this asks only what the words say of YEAR 99999. */
  private static void goState() {
    Doc.says("STATE: YEAR would be above 99999.");
    WordHedge x = Due.told("may in 2");
    Due.goTo(x, 99997);
    Due.is("3 are too many", x.go(3), Due.STATE);
    Due.is("the year stays", x.now(0), 99997);
    Due.is("2 are not", x.go(2), 65535 - 4);
    Due.is("year", x.now(0), 99999);
    Due.is("1 is too many", x.go(1), Due.STATE);
    Due.is("60 are too many", x.go(60), Due.STATE);
    Due.is("61 are beyond", x.go(61), Due.BEYOND);
    Due.is("states", x.status(4), 3);
    WordHedge y = new WordHedge();
    Due.goTo(y, 99939);
    Due.is("60 to the last", y.go(60), 65535);
    Due.is("the last", y.now(0), 99999);
  }

  private static void now() {
    WordHedge x = Due.told("slip in 2;slip in 2;slip in 1;hurdles 32769;lean 0 5 9");
    x.change(0, 3, 30);
    x.change(1, 6, 4);
    Doc.says("What 0 YEAR,");
    Due.is("at first", x.now(0), 0);
    x.go(1);
    Due.is("a year", x.now(0), 1);
    Doc.says("1 GAPS, as a set,");
    Due.is("gaps", x.now(1), 32767 - 7);
    Due.is("no gaps", Due.told("hurdles 65535").now(1), 0);
    Doc.says("2 GAPS MADE,");
    Due.is("one", x.now(2), 1);
    Doc.says("3 HURDLES, as a set,");
    Due.is("at both ends", x.now(3), 32769);
    weakest();
    sums(x);
    Edge.changesNothing("now", y -> y.now(4));
  }

  private static void weakest() {
    Doc.says("4 the weakest PLACE,");
    WordHedge x = Due.told("slip in 2;slip in 3;hurdles 65523");
    x.change(0, 3, 9);
    Due.is("of two", x.now(4), 3);
    x.change(1, 3, 9);
    Due.is("of two as weak the least", x.now(4), 2);
    x.change(1, 1, 15);
    x.hurdles(32767 - 4);
    Due.is("of 2 and the last", x.now(4), 2);
    x.change(1, 3, 8);
    Due.is("the last", x.now(4), 15);
    x.hurdles(65535);
    Due.is("all have hurdles", x.now(4), 0);
    x.change(0, 3, 0);
    x.hurdles(65535 - 4 - 8);
    Due.is("covered or a gap, as weak", x.now(4), 2);
    Due.is("none covered", new WordHedge().now(4), 0);
  }

  private static void sums(WordHedge x) {
    WordHedge most = new WordHedge();
    for (int i = 0; i < 8; i++) {
      most.slip(0, i, 1);
      most.change(i, 2, 199);
      most.change(i, 3, 99);
      most.change(i, 6, 9999);
    }
    Doc.says("5 THICK of all together,");
    Due.is("thick", x.now(5), 31 + 6 + 6);
    Due.is("most thick", most.now(5), 8 * 99);
    Due.is("thick of none", new WordHedge().now(5), 0);
    Doc.says("6 BROKE of all together,");
    Due.is("broke", x.now(6), 4);
    Due.is("most broke", most.now(6), 8 * 9999);
    Due.is("broke of none", new WordHedge().now(6), 0);
    Doc.says("7 HIGH of all together.");
    Due.is("high", x.now(7), 96);
    Due.is("most high", most.now(7), 8 * 199);
    Due.is("high of none", new WordHedge().now(7), 0);
  }

  private static void nowBeyond() {
    Doc.says("BEYOND.");
    Edge.range("what", 0, 7, (x, v) -> x.now(v));
  }

  private static void nothingChanges() {
    Doc.says("Ahead of the calls `ahead`, `strong`, `closed`, `whole`, `breaks` the interface says: "
        + "---- what will be (nothing changes).");
    Edge.changesNothing("ahead", x -> x.ahead(1, 2, 100));
    Edge.changesNothing("strong", x -> x.strong(9, 100));
    Edge.changesNothing("closed", x -> x.closed(7));
    Edge.changesNothing("breaks", x -> x.breaks(2));
    Edge.refused("closed, never", Due.NONE, x -> x.closed(15));
    Edge.refused("whole, never", Due.NONE, x -> x.whole());
    Edge.refused("breaks, never", Due.NONE, x -> x.breaks(1));
  }

  private static void ahead() {
    Doc.says("What 2, 3, 6, 7, 9 (as in of()) of a SLIP behind n (0 to 100) YEARS.");
    WordHedge x = Due.told("slip in 2;may in 2 words 3 high 190 up;lean 1 4 99");
    int[] wanted = {2, 3, 6, 7, 9};
    int[] at0 = {190, 5, 0, 5, 5 + 9 + 5};
    int[] at1 = {199, 9, 0, 5, 9 + 9};
    int[] at2 = {112, 8, 1, 3, 8 + 9};
    for (int i = 0; i < wanted.length; i++) {
      Due.is("ahead 0, " + wanted[i], x.ahead(1, wanted[i], 0), at0[i]);
      Due.is("ahead 1, " + wanted[i], x.ahead(1, wanted[i], 1), at1[i]);
      Due.is("ahead 2, " + wanted[i], x.ahead(1, wanted[i], 2), at2[i]);
    }
    Due.is("may in year 5", x.ahead(1, 9, 5), 20 + 9 + 5);
    x.lean(1, 4, 0);
    Due.is("may in year 99", x.ahead(1, 9, 99), 99 + 9);
    Due.is("may in year 100", x.ahead(1, 9, 100), 99 + 9 + 5);
    Due.is("thick behind 93", x.ahead(0, 3, 93), 98);
    Due.is("thick behind 94", x.ahead(0, 3, 94), 99);
    Due.is("thick behind 95", x.ahead(0, 3, 95), 99);
    x.change(0, 6, 9999);
    x.lean(1, 2, 99);
    Due.is("broke no more than 9999", x.ahead(0, 6, 2), 9999);
  }

  private static void aheadBeyond() {
    Doc.says("BEYOND.");
    for (int what : new int[] {2, 3, 6, 7, 9}) {
      Edge.range("years, what " + what, 0, 100, (x, v) -> x.ahead(2, what, v));
      Edge.range("slip, what " + what, 0, 2, (x, v) -> x.ahead(v, what, 100));
    }
    for (int what : new int[] {-1, 0, 1, 4, 5, 8, 10, 11, 12, Integer.MIN_VALUE, Integer.MAX_VALUE}) {
      Edge.refused("ahead of " + what, Due.BEYOND, x -> x.ahead(2, what, 0));
    }
  }

  private static void strong() {
    Doc.says("STRENGTH of a PLACE behind n (0 to 100) YEARS.");
    WordHedge x = Due.told("slip in 2;hurdles 32780;lean 0 3 41;lean 1 2 40;may in 15 words 12");
    Due.is("now", x.strong(2, 0), 45);
    Due.is("in a year", x.strong(2, 1), 46);
    Due.is("in a hundred", x.strong(2, 100), 139);
    Due.is("3 now", x.strong(3, 0), 40);
    Due.is("3 in a year: its hurdle is gone", x.strong(3, 1), 0);
    Due.is("the last in 99", x.strong(15, 99), 40 + 99);
    Due.is("the last in 100", x.strong(15, 100), 40 + 99 + 5);
    Due.is("the first", x.strong(0, 100), 0);
  }

  private static void strongBeyond() {
    Doc.says("BEYOND.");
    Edge.range("place", 0, 15, (x, v) -> x.strong(v, 100));
    Edge.range("years", 0, 100, (x, v) -> x.strong(15, v));
  }

  private static WordHedge closing() {
    return Due.told("slip in 2 high 0 up;latin in 8 high 0 up;hurdles 3");
  }

  /** The leanings of years 0, 2, 4 keep the hawthorn low so long that it covers place 4 in 201 years. */
  private static WordHedge slowlyClosing() {
    WordHedge x = Due.told("hawthorn words 11 high 0 up;lean 0 0 72;lean 2 0 72;lean 4 0 72");
    x.hurdles(65535 - 1 - 16);
    return x;
  }

  private static void closed() {
    Doc.says("Behind how many YEARS (0 to 200, the fewest) a PLACE is no GAP.");
    WordHedge x = closing();
    Due.is("its own place", x.closed(2), 0);
    Due.is("a hurdle", x.closed(1), 0);
    Due.is("next to it, in 4 times 12", x.closed(3), 4);
    Due.is("4 places on, in 14 times 12", x.closed(6), 14);
    Due.is("two at a time", x.closed(10), 4);
    Due.is("the last", x.closed(15), 16);
    x.lean(0, 2, 99);
    x.lean(5, 2, 99);
    Due.is("closed, then open again: the first time", x.closed(3), 4);
    x.hurdles(8);
    x.lean(0, 3, 99);
    Due.is("closed now, open in a year", x.closed(3), 0);
    WordHedge slow = slowlyClosing();
    slow.go(1);
    Due.is("in 200 years", slow.closed(4), 200);
    slow.go(1);
    Due.is("in 199 years", slow.closed(4), 199);
    slow.go(60);
    slow.go(60);
    slow.go(60);
    slow.go(18);
    Due.is("in a year", slow.closed(4), 1);
    slow.go(1);
    Due.is("now", slow.closed(4), 0);
  }

  private static void closedBeyond() {
    Doc.says("BEYOND.");
    Edge.range("place", 0, 15, (x, v) -> x.closed(v));
  }

  private static void closedNone() {
    Doc.says("NONE.");
    WordHedge x = closing();
    Due.is("a slip reaches 4 on at most", x.closed(7), Due.NONE);
    Due.is("in 201 years", slowlyClosing().closed(4), Due.NONE);
    Due.is("no slips", new WordHedge().closed(15), Due.NONE);
    Edge.refused("never", Due.NONE, y -> y.closed(15));
  }

  private static void whole() {
    Doc.says("Behind how many YEARS (0 to 200, the fewest) there is no GAP.");
    WordHedge x = closing();
    x.hurdles(128 + 3);
    Due.is("the last of all", x.whole(), 16);
    x.hurdles(65535);
    Due.is("now", x.whole(), 0);
    x.lean(0, 7, 99);
    Due.is("now, no more in a year", x.whole(), 0);
    x.hurdles(65535 - 8);
    x.lean(0, 2, 99);
    x.lean(5, 2, 99);
    Due.is("whole, then open again: the first time", x.whole(), 4);
    WordHedge slow = slowlyClosing();
    slow.go(1);
    Due.is("in 200 years", slow.whole(), 200);
    slow.go(1);
    Due.is("in 199 years", slow.whole(), 199);
  }

  private static void wholeNone() {
    Doc.says("NONE.");
    Due.is("a slip reaches 4 on at most", closing().whole(), Due.NONE);
    Due.is("in 201 years", slowlyClosing().whole(), Due.NONE);
    Due.is("no slips", new WordHedge().whole(), Due.NONE);
    WordHedge x = Due.told("slip in 2 high 0 up;lean 0 7 41");
    x.hurdles(65535 - 8);
    Due.is("7 is closed now", x.closed(7), 0);
    Due.is("3 is closed later", x.closed(3), 4);
    Due.is("but never all", x.whole(), Due.NONE);
    Edge.refused("never", Due.NONE, y -> y.whole());
  }

  private static void breaks() {
    Doc.says("Behind how many YEARS (1 to 200, the fewest) BROKE of a SLIP is more than now.");
    WordHedge x = Due.told("slip in 2;slip in 3;lean 3 2 9;lean 4 3 10");
    Due.is("it breaks at 9 in year 3", x.breaks(0), 4);
    x.lean(0, 2, 6);
    Due.is("it breaks at once", x.breaks(0), 1);
    Due.is("the other breaks in the 5th", x.breaks(1), 5);
    x.change(0, 6, 7);
    Due.is("more than now", x.breaks(0), 1);
    x.change(0, 6, 9998);
    Due.is("9998 can be more", x.breaks(0), 1);
    WordHedge late = brokenLate();
    late.go(1);
    Due.is("in 200 years", late.breaks(0), 200);
    late.go(1);
    Due.is("in 199 years", late.breaks(0), 199);
  }

  private static void breaksBeyond() {
    Doc.says("BEYOND.");
    Edge.range("slip", 0, 2, (x, v) -> x.breaks(v));
    Edge.range("slip of eight", 0, 7, Edge::withEightSlips, (x, v) -> x.breaks(v));
    Edge.refused("no slips", Due.BEYOND, WordHedge::new, x -> x.breaks(0));
  }

  private static void breaksNone() {
    Doc.says("NONE.");
    WordHedge x = Due.told("slip in 2;lean 3 2 8");
    Due.is("it is 8 strong in year 3", x.breaks(0), Due.NONE);
    x.lean(0, 2, 99);
    x.change(0, 6, 9999);
    Due.is("9999 can't be more", x.breaks(0), Due.NONE);
    Due.is("in 201 years", brokenLate().breaks(0), Due.NONE);
    Edge.refused("never", Due.NONE, y -> y.breaks(1));
  }

  /** Found by trying: as the slip in 1 gets stronger, the latin loses the slipper that it covers in 201 years. */
  private static WordHedge brokenLate() {
    WordHedge x = Due.told("slipper in 2 words 1;latin words 12 high 27 up;slip in 1");
    x.change(0, 3, 58);
    x.change(1, 3, 23);
    x.change(2, 3, 50);
    Due.fill(x, 0, 159, 0, 238, 99, 194, 190);
    Due.is("leanings", x.load(0), 6);
    return x;
  }
}
