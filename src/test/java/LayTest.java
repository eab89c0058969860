/** Promises 17 to 22, sentence by sentence: how to lay. */
public final class LayTest {
  public static void main(String[] args) {
    Doc.part("Ahead of the calls `lay`", "Ahead of the calls `words`");
    nothingChanges();
    Doc.promise(17);
    lay();
    layBeyond();
    Doc.promise(18);
    plant();
    plantBeyond();
    Doc.promise(19);
    kindFor();
    kindForBeyond();
    Doc.promise(20);
    weightFor();
    weightForBeyond();
    weightForNone();
    Doc.promise(21);
    layAll();
    layAllLeast();
    layAllBeyond();
    layAllNone();
    Doc.promise(22);
    hurdlesFor();
    hurdlesForBeyond();
    Doc.end();
  }

  private static void nothingChanges() {
    Doc.says("Ahead of the calls `lay`, `plant`, `kindFor`, `weightFor`, `layAll`, `hurdlesFor` the interface says: "
        + "---- how to lay.");
    Edge.changesNothing("lay", x -> x.lay(1, 60));
    Edge.changesNothing("plant", x -> x.plant(1, 60));
    Edge.changesNothing("kindFor", x -> x.kindFor(1, 60));
    Edge.changesNothing("weightFor", x -> x.weightFor(2, 1));
    Edge.refused("weightFor, none", Due.NONE, x -> x.weightFor(2, 60));
    Edge.refused("layAll, none", Due.NONE, x -> x.layAll(40));
    Edge.changesNothing("hurdlesFor", x -> x.hurdlesFor(60));
  }

  /** It grows by 1: of 20 it is 79 high behind 59 years and 80 high behind 60, and reaches one place more. */
  private static final String SLOW = "hawthorn in 4 words 11 high 20";

  private static void lay() {
    Doc.says("The LAID (0 to 2) of a SLIP with which GAPS are fewest behind n (0 to 60) YEARS.");
    WordHedge x = Due.told("slip in 2 high 80 up;slip in 8 high 40;slip in 9 high 0");
    Due.is("no way reaches farther: the least", x.lay(2, 0), 0);
    Due.is("to greater ones, or to lesser ones: the least", x.lay(0, 0), 1);
    Due.is("9 is covered: to lesser ones", x.lay(1, 0), 2);
    x.hurdles(128);
    Due.is("no way is better: the least", x.lay(1, 0), 0);
    Due.is("in 60 years to greater ones", x.lay(2, 60), 1);
    x.hurdles(0);
    x.lean(0, 4, 99);
    Due.is("in the year it breaks there", x.lay(0, 1), 2);
    WordHedge slow = Due.told(SLOW);
    slow.hurdles(65535 - 4 - 16);
    Due.is("one place to lesser ones in 59 years", slow.lay(0, 59), 0);
    Due.is("two in 60", slow.lay(0, 60), 2);
    Due.is("laid as it was", x.of(0, 4), 1);
    x.change(1, 1, 15);
    x.change(2, 1, 0);
    x.change(2, 2, 40);
    x.lean(0, 4, 0);
    Due.is("in the end there is one way", x.lay(1, 0), 2);
    Due.is("in the begin there is one way", x.lay(2, 0), 1);
  }

  private static void layBeyond() {
    Doc.says("BEYOND.");
    Edge.range("slip", 0, 2, (x, v) -> x.lay(v, 60));
    Edge.range("years", 0, 60, (x, v) -> x.lay(2, v));
    Edge.range("slip of eight", 0, 7, Edge::withEightSlips, (x, v) -> x.lay(v, 0));
  }

  private static void plant() {
    Doc.says("The PLACE IN which it must be for that.");
    WordHedge x = Due.told("slip in 2 high 80 up;slip in 5;hurdles 3");
    Due.is("in 2: the least", x.plant(0, 0), 2);
    Due.is("in 5, for it is there: the least", x.plant(1, 0), 5);
    x.hurdles(7);
    Due.is("beside it", x.plant(0, 0), 6);
    x.hurdles(65535);
    Due.is("none is open: the least of all", x.plant(0, 0), 0);
    x.hurdles(32767 - 32);
    Due.is("the last is open", x.plant(0, 0), 13);
    Due.is("5 and 15 are open: the least", x.plant(1, 0), 5);
    Due.is("in 4 years the other covers 5", x.plant(1, 4), 15);
    x.hurdles(65534);
    Due.is("the first is open", x.plant(1, 0), 0);
    x.hurdles(3);
    Due.is("in 60 years it reaches 4 places", x.plant(0, 60), 6);
    Due.is("place as it was", x.of(0, 1), 2);
    WordHedge slow = Due.told(SLOW);
    slow.change(0, 4, 1);
    slow.hurdles(65535 - 512 - 2048);
    Due.is("9 or 11 in 59 years", slow.plant(0, 59), 8);
    Due.is("9 and 11 in 60", slow.plant(0, 60), 9);
  }

  private static void plantBeyond() {
    Doc.says("BEYOND.");
    Edge.range("slip", 0, 2, (x, v) -> x.plant(v, 60));
    Edge.range("years", 0, 60, (x, v) -> x.plant(2, v));
    Edge.range("slip of eight", 0, 7, Edge::withEightSlips, (x, v) -> x.plant(v, 0));
  }

  private static void kindFor() {
    Doc.says("The KIND of which it must be, so that STRENGTH of its PLACE is greatest behind n (0 to 60) YEARS.");
    WordHedge x = Due.told("slip in 3 words 12 high 9");
    Due.is("an elegy: 5 and 10 and 1", x.kindFor(0, 0), 4);
    x.change(0, 2, 4);
    Due.is("promise, latin, elegy do: the least", x.kindFor(0, 0), 2);
    x.change(0, 4, 1);
    Due.is("when it is laid, a may in year 0", x.kindFor(0, 0), 6);
    x.change(0, 2, 0);
    Due.is("hawthorn and may do in year 1: the least", x.kindFor(0, 1), 1);
    Due.is("a may in year 5", x.kindFor(0, 5), 6);
    Due.is("an elegy in 60 years", x.kindFor(0, 60), 4);
    Due.is("kind as it was", x.of(0, 0), 0);
    WordHedge y = Due.told("hawthorn in 15 words 1 high 0;"
        + "lean 0 15 99;lean 1 15 99;lean 2 15 99;lean 3 15 99;lean 4 15 99");
    y.lean(5, 15, 99);
    Due.is("where it breaks each year, hawthorn and may do in 59", y.kindFor(0, 59), 1);
    Due.is("a may does in 60", y.kindFor(0, 60), 6);
    WordHedge z = Due.told("slip in 3;slip in 5;hurdles 8");
    z.change(0, 3, 99);
    z.change(1, 5, 2);
    Due.is("its own place counts", z.kindFor(1, 0), 6);
    WordHedge held = Due.told("slip in 4 words 12 high 40 up;slip in 6 high 80 down;lean 0 6 52");
    held.change(1, 3, 50);
    Due.is("now an elegy is the strongest", held.kindFor(0, 0), 4);
    Due.is("in a year a latin, which holds 6 and so the other one", held.kindFor(0, 1), 3);
  }

  private static void kindForBeyond() {
    Doc.says("BEYOND.");
    Edge.range("slip", 0, 2, (x, v) -> x.kindFor(v, 60));
    Edge.range("years", 0, 60, (x, v) -> x.kindFor(2, v));
    Edge.range("slip of eight", 0, 7, Edge::withEightSlips, (x, v) -> x.kindFor(v, 0));
  }

  private static void weightFor() {
    Doc.says("The greatest WEIGHT (0 to 99) of the LEANING in place i of THE LIST (its PLACE as it is) "
        + "with which GAPS MADE are as now behind n (0 to 60) YEARS.");
    WordHedge x = Due.told("slip in 3;lean 0 3 77;lean 2 5 0");
    Due.is("nothing leans in 0 years", x.weightFor(0, 0), 99);
    Due.is("as strong as it is", x.weightFor(0, 1), 5);
    Due.is("as strong as it is, for 60 years", x.weightFor(0, 60), 5);
    Due.is("the leaning stays", x.leaning(0), 377);
    x.lean(0, 3, 5);
    Due.is("a gap bears 0", x.weightFor(2, 60), 0);
    Due.is("till then 99", x.weightFor(2, 2), 99);
    Due.is("in that year 0", x.weightFor(2, 3), 0);
    x.lean(2, 3, 3);
    Due.is("it fills", x.weightFor(2, 60), 7);
    x.lean(5, 15, 1);
    x.hurdles(32768);
    x.slip(0, 15, 1);
    x.change(1, 3, 53);
    Due.is("98 behind 5 years", x.weightFor(5, 60), 98);
    x.change(1, 3, 54);
    Due.is("99 behind 5 years", x.weightFor(5, 60), 99);
    x.change(1, 3, 99);
    Due.is("99 at most", x.weightFor(5, 60), 99);
    WordHedge y = Due.told("slip in 3;lean 0 5 9;lean 1 3 4");
    y.go(1);
    Due.is("a gap made before now", y.now(2), 1);
    Due.is("is as now", y.weightFor(1, 5), 6);
    Due.is("in the 6th it is one more", y.weightFor(1, 6), Due.NONE);
  }

  private static void weightForBeyond() {
    Doc.says("BEYOND.");
    Edge.range("place of the list", 0, 5, (x, v) -> x.weightFor(v, 60));
    Edge.range("years", 0, 60, (x, v) -> x.weightFor(5, v));
  }

  private static void weightForNone() {
    Doc.says("NONE.");
    WordHedge x = Due.told("slip in 3;lean 0 3 6;lean 2 5 1");
    Due.is("now nothing has broken", x.weightFor(1, 0), 99);
    Due.is("another breaks at once", x.weightFor(1, 1), Due.NONE);
    x.lean(0, 3, 5);
    Due.is("another breaks in the 3rd", x.weightFor(0, 3), Due.NONE);
    Due.is("not in the 2nd", x.weightFor(0, 2), 5);
    Edge.refused("another breaks", Due.NONE, y -> y.weightFor(0, 60));
  }

  private static void layAll() {
    Doc.says("The set of fewest SLIPS such that, if these are LAID to greater PLACES now and all others upright, "
        + "there is no GAP behind n (0 to 40) YEARS;");
    WordHedge x = Due.told("slip in 1 high 80 up;slip in 5 high 40 down;slip in 2 high 79");
    x.hurdles(65535 - 64);
    Due.is("the second", x.layAll(0), 2);
    x.hurdles(65535 - 8);
    Due.is("the first", x.layAll(0), 1);
    x.hurdles(65535 - 8 - 64);
    Due.is("the first and the second", x.layAll(0), 3);
    x.hurdles(65535 - 4);
    Due.is("none, for it covers its place", x.layAll(0), 0);
    x.hurdles(65535 - 16 - 64);
    Due.is("the second, and in a year the third", x.layAll(1), 6);
    Due.is("in 12 years the third is high enough alone", x.layAll(12), 4);
    Due.is("laid as it was", x.of(0, 4), 1);
    Due.is("no slips, all hurdles", Due.told("hurdles 65535").layAll(40), 0);
    WordHedge y = Edge.withEightSlips();
    for (int i = 0; i < 8; i++) {
      y.change(i, 0, 6);
      y.change(i, 5, 1);
    }
    Due.is("all eight", y.layAll(0), 255);
    y.hurdles(1 << 9);
    Due.is("all but one", y.layAll(0), 255 - 16);
    y.hurdles(1 << 15);
    Due.is("all but the last", y.layAll(0), 127);
    WordHedge slow = Due.told("hawthorn in 14 words 11 high 0");
    slow.hurdles(16383);
    Due.is("in 40 years", slow.layAll(40), 1);
  }

  private static void layAllLeast() {
    Doc.says("of several the least.");
    WordHedge x = Due.told("slip in 1 high 120;slip in 2 high 80;slip in 3 high 40;slip in 8 high 40");
    x.hurdles(65535 - 16);
    Due.is("each of three does", x.layAll(0), 1);
    x.change(0, 2, 119);
    Due.is("each of two does", x.layAll(0), 2);
    x.hurdles(65535 - 16 - 512);
    Due.is("two of three do", x.layAll(0), 2 + 8);
    x.change(1, 1, 8);
    x.change(0, 2, 120);
    Due.is("two of four do", x.layAll(0), 1 + 2);
    x.hurdles(65535 - 16 - 1024);
    x.change(3, 1, 4);
    Due.is("one that must, for the least would not", x.layAll(0), 2);
  }

  private static void layAllBeyond() {
    Doc.says("BEYOND.");
    Edge.range("years", 0, 40, (x, v) -> x.layAll(v));
  }

  private static void layAllNone() {
    Doc.says("NONE.");
    WordHedge x = Due.told("slip in 1 high 80 up;slip in 5 high 40 down");
    x.hurdles(65535 - 64 - 128);
    Due.is("7 is too far", x.layAll(0), Due.NONE);
    x.hurdles(65535 - 16);
    Due.is("4 is not covered when none is laid to lesser ones", x.layAll(0), Due.NONE);
    x.hurdles(65535 - 64);
    Due.is("6 is", x.layAll(0), 2);
    x.lean(0, 5, 46);
    Due.is("but not when it breaks", x.layAll(1), Due.NONE);
    Due.is("no slips", new WordHedge().layAll(0), Due.NONE);
    WordHedge slow = Due.told("hawthorn in 14 words 11 high 0");
    slow.hurdles(16383);
    Due.is("not in 39 years", slow.layAll(39), Due.NONE);
    Edge.refused("never", Due.NONE, y -> y.layAll(40));
  }

  private static void hurdlesFor() {
    Doc.says("The fewest HURDLES (how many, with none as there are now) with which there is no GAP "
        + "behind n (0 to 60) YEARS, if nothing leans from now on.");
    WordHedge x = Due.told("slip in 1 high 80 up;slip in 5 high 35 down;hurdles 65535;lean 0 1 99;lean 1 4 99");
    Due.is("now", x.hurdlesFor(0), 16 - 4);
    Due.is("in a year", x.hurdlesFor(1), 16 - 5);
    Due.is("in 2 years nothing has leaned", x.hurdlesFor(2), 16 - 5);
    Due.is("in 60", x.hurdlesFor(60), 16 - 5);
    x.hurdles(0);
    Due.is("without hurdles as with", x.hurdlesFor(0), 16 - 4);
    Due.is("no slips", new WordHedge().hurdlesFor(60), 16);
    WordHedge y = Due.told("latin in 0 high 199 up;latin in 15 high 199 down");
    Due.is("all is covered", y.hurdlesFor(0), 0);
    WordHedge slow = Due.told(SLOW);
    slow.change(0, 4, 2);
    Due.is("two are covered in 59 years", slow.hurdlesFor(59), 14);
    Due.is("three in 60", slow.hurdlesFor(60), 13);
    WordHedge weak = Due.told("slip high 40 up");
    weak.change(0, 3, 0);
    Due.is("not the least weight leans on the weakest", weak.hurdlesFor(1), 14);
  }

  private static void hurdlesForBeyond() {
    Doc.says("BEYOND.");
    Edge.range("years", 0, 60, (x, v) -> x.hurdlesFor(v));
  }
}
