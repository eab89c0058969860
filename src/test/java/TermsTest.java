/** The terms, sentence by sentence; those of texts are in TextTest. */
public final class TermsTest {
  public static void main(String[] args) {
    Doc.part("An object is used", "## The public face");
    calls();
    Doc.part("FINDINGS are", "1. PLACES");
    findings();
    drawsAreNoFindings();
    orderOfFindings();
    quotients();
    sets();
    Doc.part("1. PLACES", "2. A YEAR");
    places();
    list();
    gapsMade();
    slips();
    kinds();
    traits();
    reaches();
    covers();
    strong();
    grows();
    fills();
    strength();
    Doc.part("2. A YEAR", "3. A TEXT");
    itBreaks();
    hurdleGone();
    slipsGiveWay();
    gapsMadeMore();
    slipsGrow();
    yearMore();
    draws();
    Doc.part("SPOTS 0 to 9", "Ahead of the calls `hurdles`");
    spots();
    sheets();
    Doc.end();
  }

  private static void calls() {
    Doc.says("An object is used for at most 512 calls after it has been made; what later calls answer is free.");
    WordHedge x = new WordHedge();
    for (int i = 0; i < 511; i++) {
      x.go(61);
    }
    Due.is("the 512th call", x.status(0), 511);
    WordHedge y = new WordHedge();
    for (int i = 0; i < 510; i++) {
      y.go(60);
    }
    Due.is("the 511th call", y.go(60), 65535);
    Due.is("the 512th", y.now(0), 511 * 60);
  }

  private static void findings() {
    Doc.says("FINDINGS are answers below -1000000: LOW is -1000001; LOW BEYOND, LOW - 1 FULL, LOW - 2 KIND, "
        + "LOW - 3 NONE, LOW - 4 STATE, LOW - 5 MISSING, LOW - 6 SIZE (in longs, too).");
    WordHedge x = Edge.withEightSlips();
    x.hold(0, 0);
    Due.is("beyond", x.hurdles(-1), -1000001);
    Due.is("full", x.slip(0, 0, 1), -1000002);
    Due.is("kind", x.as(0, 1), -1000003);
    Due.is("none", x.whole(), -1000004);
    Due.is("missing", x.judge(0), -1000006);
    Due.is("size", x.sheet(0, 8, -1), -1000007);
    Due.is("beyond, a long", x.odds(100, 0, 0), -1000001L);
    for (int which = 0; which <= 6; which++) {
      Due.is("told " + which, x.status(which), which == 0 ? 2 : which == 4 ? 0 : 1);
    }
    Due.goTo(x, 99999);
    Due.is("state, beyond the 512 calls", x.go(1), -1000005);
    Due.is("told 4", x.status(4), 1);
  }

  private static void drawsAreNoFindings() {
    Doc.says("What seed() and count(6) tell, z, may be any int: that is no finding.");
    WordHedge x = new WordHedge();
    int[] any = {-1000000, -1000001, -1000002, -1000003, -1000004, -1000005, -1000006, -1000007, -1000008,
        Integer.MIN_VALUE, Integer.MAX_VALUE, -1, 0};
    int was = 1;
    for (int v : any) {
      Due.is("seed " + v, x.seed(v), was);
      Due.is("count 6 of " + v, x.count(6), v);
      was = v;
    }
    for (int which = -1; which <= 6; which++) {
      Due.is("told " + which, x.status(which), 0);
    }
  }

  private static void orderOfFindings() {
    Doc.says("Each act tells its findings in the order in which they are asked (that of its words); "
        + "one that answers a finding changes nothing but status().");
    Edge.refused("a 9th slip of no kind", Due.BEYOND, Edge::withEightSlips, x -> x.slip(7, 0, 1));
    Edge.refused("a 9th slip", Due.FULL, Edge::withEightSlips, x -> x.slip(6, 0, 1));
    Edge.refused("words: missing, no such slip", Due.MISSING, x -> x.words(3, 9));
    Edge.refused("words: no such sheet, no such slip", Due.BEYOND, x -> x.words(4, 9));
    Edge.refused("kinds: missing, no such slip", Due.MISSING, x -> x.kinds(3, 9));
    Edge.refused("fits: missing, no such slip", Due.MISSING, x -> x.fits(3, 9));
    Edge.refused("five bytes on a full tape", Due.BEYOND, TermsTest::withFullTape, x -> x.feed(0, 5));
    Edge.refused("a byte on a full tape", Due.FULL, TermsTest::withFullTape, x -> x.feed(0, 1));
    Edge.refused("an empty spot as no kind", Due.BEYOND, x -> x.as(5, 7));
    Edge.refused("an empty spot", Due.MISSING, x -> x.as(5, 6));
    Edge.refused("another kind", Due.KIND, x -> x.as(2, 2));
    Edge.refused("other bits, size below 0", Due.BEYOND, x -> x.sheet(0, 9, -1));
    Edge.refused("no such sheet, size below 0", Due.BEYOND, x -> x.sheet(4, 8, -1));
    Edge.refused("size below 0", Due.SIZE, x -> x.sheet(0, 8, -1));
    Edge.refused("write: missing, no such number", Due.MISSING, x -> x.write(3, 40, 0));
    Edge.refused("copy: no such sheet, missing", Due.BEYOND, x -> x.copy(3, 0, 4, 0, 0));
    Edge.refused("copy: missing, of other bits", Due.MISSING, x -> x.copy(0, 0, 3, 0, 0));
    Edge.refused("copy: other bits, too many", Due.KIND, x -> x.copy(0, 0, 1, 0, 41));
  }

  private static WordHedge withFullTape() {
    WordHedge x = Edge.full();
    for (int i = 3; i < 120; i++) {
      x.feed(' ', 1);
    }
    return x;
  }

  private static void quotients() {
    Doc.says("Quotients are cut.");
    WordHedge x = Due.told("elegy words 1 high 39 up");
    Due.is("a fortieth of 39, twice", x.of(0, 7), 0);
    Due.is("half of 7", x.of(0, 10), 3);
    Due.is("a fifth of 39", x.of(0, 9), 5 + 7);
    x.change(0, 2, 79);
    Due.is("a fortieth of 79, twice, less 1", x.of(0, 7), 1);
    x.change(0, 0, 5);
    Due.is("half of 5", x.of(0, 9), 2);
    x.lean(0, 0, 99);
    x.go(1);
    Due.is("half of 79, and 3", x.of(0, 2), 39 + 3);
  }

  private static void sets() {
    Doc.says("Sets (of PLACES as bits 0 to 15) are told as bits; "
        + "of several that would do the least number counts, where nothing else is told.");
    WordHedge x = new WordHedge();
    for (int place = 0; place < 16; place++) {
      x.hurdles(65535 - (1 << place));
      Due.is("gaps but for " + place, x.now(1), 1 << place);
      Due.is("hurdles but " + place, x.now(3), 65535 - (1 << place));
    }
    x.slip(0, 9, 4);
    x.slip(0, 9, 4);
    x.hurdles(65535);
    Due.is("all ways do: lay", x.lay(1, 0), 0);
    Due.is("all places do: plant", x.plant(1, 0), 0);
    Due.is("all but 9 are as weak: now 4", x.now(4), 0);
    x.change(1, 5, 12);
    x.change(1, 4, 1);
    x.go(1);
    x.change(1, 2, 4);
    Due.is("slip, hawthorn, promise, latin, elegy, may do: kindFor", x.kindFor(1, 0), 0);
    x.hurdles(65535 - (1 << 10));
    x.change(1, 2, 40);
    x.change(0, 2, 40);
    Due.is("either slip does: layAll", x.layAll(0), 1);
  }

  private static void places() {
    Doc.says("1. PLACES 0 to 15 in a row; HURDLES in some (a set, 0 to 65535; 0 at first).");
    WordHedge x = new WordHedge();
    Due.is("no hurdles", x.now(3), 0);
    x.hurdles(65535);
    Due.is("all hurdles", x.now(3), 65535);
    Edge.range("a place", 0, 15, (y, v) -> y.place(v, 0));
    Edge.range("hurdles", 0, 65535, (y, v) -> y.hurdles(v));
  }

  private static void list() {
    Doc.says("THE LIST: six LEANINGS, one for YEAR modulo 6: AT a PLACE, with a WEIGHT (0 to 99); "
        + "told as one number, 100 * PLACE and WEIGHT (0 at first).");
    for (int i = 0; i < 6; i++) {
      WordHedge x = new WordHedge();
      Due.is("leaning " + i + " at first", x.leaning(i), 0);
      x.lean(i, 15, 99);
      Due.is("leaning " + i, x.leaning(i), 1599);
      for (int year = 0; year <= 18; year++) {
        Due.is("list " + i + ", gaps made in " + year, x.now(2), (year + 5 - i) / 6);
        x.go(1);
      }
    }
    Edge.range("place of the list", 0, 5, (x, v) -> x.lean(v, 0, 0));
    Edge.range("weight", 0, 99, (x, v) -> x.lean(0, 0, v));
  }

  private static WordHedge withLeaningsAtOpenPlaces() {
    WordHedge x = Due.told("slip in 15;hurdles 1");
    for (int i = 0; i < 6; i++) {
      x.lean(i, 7, 1);
    }
    return x;
  }

  private static void gapsMade() {
    Doc.says("GAPS MADE (0 to 9999; 0 at first).");
    WordHedge x = withLeaningsAtOpenPlaces();
    Due.is("at first", x.now(2), 0);
    for (int i = 0; i < 166; i++) {
      x.go(60);
    }
    x.go(38);
    Due.is("9998 years", x.now(2), 9998);
    x.go(1);
    Due.is("9999 years", x.now(2), 9999);
    x.go(1);
    Due.is("10000 years", x.now(2), 9999);
    x.go(60);
    Due.is("10060 years", x.count(3), 9999);
  }

  private static void slips() {
    Doc.says("SLIPS 0, 1, .. (at most 8),");
    WordHedge x = new WordHedge();
    for (int i = 0; i < 8; i++) {
      Due.is("slip " + i, x.slip(0, 0, 1), i);
    }
    Due.is("a 9th", x.slip(0, 0, 1), Due.FULL);
    Due.is("a 9th in a text", Due.read(x, "may"), -1);
    Due.is("eight", x.count(1), 8);
    Due.is("the 8th", x.of(7, 0), 0);
    Due.is("no 9th", x.of(8, 0), Due.BEYOND);
  }

  private static void kinds() {
    Doc.says("of KINDS: 0 SLIP; 1 HAWTHORN, 2 PROMISE, 5 SLIPPER under SLIP; 3 LATIN under PROMISE; "
        + "4 ELEGY under LATIN; 6 MAY under HAWTHORN;");
    WordHedge x = Due.told("slip;hawthorn;promise;latin;elegy;slipper;may");
    int[] kindsAbove = {1, 3, 5, 13, 29, 33, 67};
    for (int kind = 0; kind < 7; kind++) {
      Due.is("kind " + kind, x.of(kind, 0), kind);
      x.hold(0, kind);
      for (int wanted = 0; wanted < 7; wanted++) {
        boolean isOne = (kindsAbove[kind] >> wanted & 1) == 1;
        Due.is(kind + " as " + wanted, x.as(0, wanted), isOne ? kind : Due.KIND);
      }
    }
  }

  private static void traits() {
    Doc.says("each IN a PLACE, HIGH (0 to 199; 20 at first), THICK (0 to 99; 5 at first), "
        + "LAID (0 upright, 1 to greater PLACES, 2 to lesser ones; 0 at first), "
        + "of so many WORDS (1 to 12; 4 at first), BROKE (how often; 0 to 9999; 0 at first).");
    WordHedge x = new WordHedge();
    x.slip(3, 6, 12);
    Due.traits(x, "a new one", 0, 3, 6, 20, 5, 0, 12, 0);
    Due.read(x, "latin");
    Due.traits(x, "a new one of a text", 1, 3, 0, 20, 5, 0, 4, 0);
    int[] least = {0, 0, 0, 0, 0, 1, 0};
    int[] most = {6, 15, 199, 99, 2, 12, 9999};
    for (int what = 0; what < 7; what++) {
      int changed = what;
      Edge.range("trait " + what, least[what], most[what], (y, v) -> y.change(0, changed, v));
    }
    x.change(0, 2, 40);
    int[] covered = {1 << 6, 7 << 6, 7 << 4};
    for (int laid = 0; laid <= 2; laid++) {
      x.change(0, 4, laid);
      Due.is("covered when laid " + laid, x.of(0, 8), covered[laid]);
    }
  }

  /** Slip 0 becomes one of this kind; what is asked of it must be as due for each value of one of its traits. */
  private static void byTrait(WordHedge x, int kind, int asked, int trait, int[]... valuesAndDue) {
    x.change(0, 0, kind);
    for (int[] pair : valuesAndDue) {
      x.change(0, trait, pair[0]);
      Due.is("kind " + kind + ", trait " + trait + " of " + pair[0] + ": of " + asked, x.of(0, asked), pair[1]);
    }
  }

  private static int[] at(int value, int due) {
    return new int[] {value, due};
  }

  private static void reaches() {
    WordHedge x = Due.told("slip words 5 up");
    Doc.says("REACHES (PLACES beside its own, when LAID): SLIP: a fortieth (cut) of HIGH.");
    byTrait(x, 0, 7, 2, at(0, 0), at(39, 0), at(40, 1), at(79, 1), at(80, 2), at(159, 3), at(160, 4), at(199, 4));
    x.change(0, 5, 1);
    byTrait(x, 0, 7, 2, at(39, 0), at(199, 4));
    x.change(0, 2, 199);
    byTrait(x, 0, 7, 4, at(0, 4), at(1, 4), at(2, 4));
    Doc.says("HAWTHORN: as a SLIP, and 1, if WORDS are 4 or less.");
    x.change(0, 2, 79);
    byTrait(x, 1, 7, 5, at(1, 2), at(4, 2), at(5, 1), at(12, 1));
    byTrait(x, 1, 7, 2, at(0, 0), at(40, 1), at(199, 4));
    x.change(0, 5, 4);
    byTrait(x, 1, 7, 2, at(0, 1), at(39, 1), at(40, 2), at(199, 5));
    Doc.says("MAY: as a HAWTHORN.");
    byTrait(x, 6, 7, 2, at(0, 1), at(39, 1), at(40, 2), at(199, 5));
    byTrait(x, 6, 7, 5, at(1, 5), at(4, 5), at(5, 4), at(12, 4));
    x.change(0, 5, 1);
    Doc.says("PROMISE: as a SLIP.");
    byTrait(x, 2, 7, 2, at(0, 0), at(39, 0), at(40, 1), at(199, 4));
    Doc.says("LATIN: twice a PROMISE.");
    byTrait(x, 3, 7, 2, at(0, 0), at(39, 0), at(40, 2), at(79, 2), at(80, 4), at(199, 8));
    Doc.says("ELEGY: as a LATIN, less 1 (0 at least).");
    byTrait(x, 4, 7, 2, at(0, 0), at(39, 0), at(40, 1), at(79, 1), at(80, 3), at(199, 7));
    Doc.says("SLIPPER: 0.");
    byTrait(x, 5, 7, 2, at(0, 0), at(40, 0), at(199, 0));
  }

  private static void covers() {
    Doc.says("COVERS: its PLACE, and, if it is LAID, as many next to it that way "
        + "as it REACHES (no farther than the end).");
    WordHedge x = Due.told("latin in 8 high 199");
    Due.is("upright", x.of(0, 8), 1 << 8);
    x.change(0, 4, 1);
    Due.is("to the greater end: one farther than there is", x.of(0, 8), 65535 - 255);
    x.change(0, 1, 7);
    Due.is("to the very end", x.of(0, 8), 65535 - 127);
    x.change(0, 1, 6);
    Due.is("not to the end", x.of(0, 8), 511 << 6);
    Due.is("15 is not covered", x.place(15, 2), 0);
    x.change(0, 1, 15);
    Due.is("in the end", x.of(0, 8), 1 << 15);
    x.change(0, 4, 2);
    Due.is("in the end, the other way", x.of(0, 8), 511 << 7);
    x.change(0, 1, 7);
    Due.is("to the lesser end: one farther than there is", x.of(0, 8), 255);
    x.change(0, 1, 8);
    Due.is("to the very begin", x.of(0, 8), 511);
    x.change(0, 1, 9);
    Due.is("not to the begin", x.of(0, 8), 511 << 1);
    x.change(0, 1, 0);
    Due.is("in the begin", x.of(0, 8), 1);
    for (int place = 0; place < 16; place++) {
      Due.is("over " + place, x.place(place, 2), place == 0 ? 1 : 0);
    }
  }

  private static void strong() {
    WordHedge x = Due.told("slip words 12 high 199");
    Doc.says("STRONG (in each PLACE that it COVERS): SLIP: THICK.");
    byTrait(x, 0, 9, 3, at(0, 0), at(1, 1), at(99, 99));
    x.change(0, 4, 1);
    for (int place = 0; place < 16; place++) {
      Due.is("strength of " + place, x.place(place, 0), place <= 4 ? 99 : 0);
    }
    x.go(1);
    x.change(0, 3, 21);
    Doc.says("HAWTHORN: as a SLIP, and 12 less WORDS.");
    byTrait(x, 1, 9, 5, at(1, 32), at(11, 22), at(12, 21));
    Doc.says("MAY: as a HAWTHORN, and 5, if YEAR is a multiple of 5.");
    byTrait(x, 6, 9, 5, at(1, 32), at(12, 21));
    for (int year = 1; year <= 11; year++) {
      x.change(0, 3, 21);
      Due.is("may in year " + year, x.of(0, 9), year % 5 == 0 ? 26 : 21);
      x.go(1);
    }
    Due.is("may in year 0", Due.told("may words 12").of(0, 9), 10);
    x.change(0, 3, 21);
    Doc.says("PROMISE: as a SLIP, and 10, if it is upright.");
    byTrait(x, 2, 9, 4, at(0, 31), at(1, 21), at(2, 21));
    Doc.says("LATIN: as a PROMISE.");
    byTrait(x, 3, 9, 4, at(0, 31), at(1, 21), at(2, 21));
    Doc.says("ELEGY: as a LATIN, and a fifth (cut) of HIGH.");
    byTrait(x, 4, 9, 2, at(0, 21), at(4, 21), at(5, 22), at(199, 60));
    byTrait(x, 4, 9, 4, at(0, 70), at(1, 60), at(2, 60));
    Doc.says("SLIPPER: half (cut) of a SLIP.");
    byTrait(x, 5, 9, 3, at(0, 0), at(1, 0), at(2, 1), at(98, 49), at(99, 49));
    byTrait(x, 5, 9, 4, at(0, 49), at(1, 49));
  }

  private static void grows() {
    WordHedge x = Due.told("slip");
    Doc.says("GROWS (HIGH more in a YEAR): SLIP: 12.");
    byTrait(x, 0, 10, 4, at(0, 12), at(1, 12), at(2, 12));
    Doc.says("HAWTHORN: as a SLIP, less WORDS.");
    byTrait(x, 1, 10, 5, at(1, 11), at(11, 1), at(12, 0));
    Doc.says("MAY: as a HAWTHORN, and 4.");
    byTrait(x, 6, 10, 5, at(1, 15), at(12, 4));
    Doc.says("PROMISE: as a SLIP, less 6, if it is LAID.");
    byTrait(x, 2, 10, 4, at(0, 12), at(1, 6), at(2, 6));
    Doc.says("LATIN: as a PROMISE, and WORDS.");
    byTrait(x, 3, 10, 4, at(0, 24), at(1, 18), at(2, 18));
    byTrait(x, 3, 10, 5, at(1, 7), at(12, 18));
    Doc.says("ELEGY: half (cut) of a LATIN.");
    byTrait(x, 4, 10, 5, at(1, 3), at(2, 4), at(3, 4), at(11, 8), at(12, 9));
    byTrait(x, 4, 10, 4, at(0, 12), at(1, 9), at(2, 9));
    Doc.says("SLIPPER: 3.");
    byTrait(x, 5, 10, 4, at(0, 3), at(1, 3), at(2, 3));
    x.change(0, 2, 0);
    x.go(1);
    Due.is("grown", x.of(0, 2), 3);
  }

  private static void fills() {
    WordHedge x = Due.told("slip words 12");
    Doc.says("FILLS (THICK more in a YEAR): SLIP: 1, if it is upright, else 3.");
    byTrait(x, 0, 11, 4, at(0, 1), at(1, 3), at(2, 3));
    Doc.says("HAWTHORN: as a SLIP, and 1.");
    byTrait(x, 1, 11, 4, at(0, 2), at(1, 4), at(2, 4));
    Doc.says("MAY, PROMISE, LATIN, ELEGY: as the KIND above.");
    byTrait(x, 6, 11, 4, at(0, 2), at(1, 4), at(2, 4));
    for (int kind = 2; kind <= 4; kind++) {
      byTrait(x, kind, 11, 4, at(0, 1), at(1, 3), at(2, 3));
    }
    x.go(1);
    Due.is("filled", x.of(0, 3), 8);
    Doc.says("SLIPPER: 0.");
    byTrait(x, 5, 11, 4, at(0, 0), at(1, 0), at(2, 0));
    x.go(9);
    Due.is("not filled", x.of(0, 3), 8);
  }

  private static void strength() {
    Doc.says("STRENGTH of a PLACE: what all that COVER it are STRONG together, and 40, if there is a HURDLE.");
    WordHedge x = Due.told("slip in 3 high 40 up;promise in 4;hurdles 40;slip in 5 high 39 down");
    int[] due = {0, 0, 0, 45, 20, 45, 0};
    for (int place = 0; place < due.length; place++) {
      Due.is("strength of " + place, x.place(place, 0), due[place]);
    }
    for (int i = 3; i < 8; i++) {
      x.slip(1, 15, 1);
    }
    for (int i = 0; i < 8; i++) {
      x.change(i, 0, 6);
      x.change(i, 1, 15);
      x.change(i, 3, 99);
      x.change(i, 5, 1);
    }
    x.hurdles(1 << 15);
    Due.is("the greatest without an elegy", x.place(15, 0), 8 * (99 + 11 + 5) + 40);
    Doc.says("A GAP: a PLACE that none COVERS, without a HURDLE.");
    WordHedge y = Due.told("slip in 3 high 40 up;hurdles 32769");
    y.change(0, 3, 0);
    Due.is("covered without strength is no gap", y.place(4, 3), 0);
    Due.is("gaps", y.now(1), 65535 - 1 - 8 - 16 - 32768);
    y.hurdles(0);
    Due.is("at the ends", y.now(1), 65535 - 8 - 16);
  }

  private static void itBreaks() {
    Doc.says("2. A YEAR goes by: (1) the LEANING of THE LIST for YEAR modulo 6: "
        + "if its WEIGHT is more than the STRENGTH of its PLACE, that breaks:");
    for (int weight = 44; weight <= 46; weight++) {
      WordHedge x = Due.told("slip in 15;hurdles 32768");
      x.lean(0, 15, weight);
      x.go(1);
      Due.is("strength 45, weight " + weight + ": gaps made", x.now(2), weight > 45 ? 1 : 0);
    }
    WordHedge y = new WordHedge();
    y.go(60);
    Due.is("weight 0 on strength 0", y.now(2), 0);
    for (int year = 0; year < 13; year++) {
      WordHedge x = Due.told("lean 0 3 1");
      if (year > 0) x.go(year);
      Due.is("places of the list by year, gaps made in " + year, x.now(2), (year + 5) / 6);
    }
    WordHedge may = Due.told("may words 12;lean 5 0 21");
    may.change(0, 3, 6);
    may.go(6);
    Due.is("of the year that begins: a may of 16 and 5 in year 5", may.now(2), 0);
    may.lean(0, 0, 19);
    may.go(1);
    Due.is("18 in year 6", may.now(2), 1);
  }

  private static void hurdleGone() {
    Doc.says("its HURDLE is gone (if there is one);");
    WordHedge x = Due.told("hurdles 65535;lean 0 15 41;lean 1 15 1;lean 2 0 41;lean 3 7 40");
    x.go(1);
    Due.is("at the end", x.now(3), 32767);
    x.go(1);
    Due.is("there was none", x.now(3), 32767);
    x.go(1);
    Due.is("at the begin", x.now(3), 32766);
    x.go(1);
    Due.is("strong enough", x.now(3), 32766);
    Due.is("gaps made", x.now(2), 3);
  }

  private static void slipsGiveWay() {
    Doc.says("of each SLIP that COVERS it HIGH is half (cut), THICK 5 less (0 at least), "
        + "BROKE 1 more (9999 at most) (all that COVER it ahead of that);");
    int[][] thickAndDue = {{0, 0}, {4, 0}, {5, 0}, {6, 1}, {99, 94}};
    for (int[] pair : thickAndDue) {
      WordHedge x = Due.told("slipper in 3 high 77;hurdles 65535");
      x.change(0, 3, pair[0]);
      x.lean(0, 3, 99);
      x.go(1);
      Due.is("thick of " + pair[0] + " when it breaks", x.of(0, 3), pair[1]);
      Due.is("half of 77 and 3", x.of(0, 2), 38 + 3);
    }
    int[][] brokeAndDue = {{0, 1}, {9998, 9999}, {9999, 9999}};
    for (int[] pair : brokeAndDue) {
      WordHedge x = Due.told("slip in 3;lean 0 3 99");
      x.change(0, 6, pair[0]);
      x.go(1);
      Due.is("broke of " + pair[0] + " when it breaks", x.of(0, 6), pair[1]);
    }
    WordHedge x = Due.told("slipper high 0;lean 0 0 99");
    x.go(1);
    Due.is("half of 0, and 3", x.of(0, 2), 3);
    WordHedge y = Due.told("slip in 1 high 80 up;slip in 5 high 80 down;slip in 2 high 39 up;slip in 3;lean 0 3 99");
    y.go(1);
    int[] broke = {1, 1, 0, 1};
    int[] high = {52, 52, 51, 22};
    for (int i = 0; i < broke.length; i++) {
      Due.is("3 breaks: broke of slip " + i, y.of(i, 6), broke[i]);
      Due.is("3 breaks: high of slip " + i, y.of(i, 2), high[i]);
    }
    allEightGiveWay();
  }

  private static void allEightGiveWay() {
    WordHedge x = Edge.withEightSlips();
    for (int i = 0; i < 8; i++) {
      x.change(i, 0, 5);
      x.change(i, 1, 15);
      x.change(i, 2, 11 + i);
    }
    x.lean(0, 15, 99);
    x.go(1);
    for (int i = 0; i < 8; i++) {
      Due.is("broke of slip " + i + " of eight", x.of(i, 6), 1);
      Due.is("high of slip " + i + " of eight", x.of(i, 2), (11 + i) / 2 + 3);
      Due.is("thick of slip " + i + " of eight", x.of(i, 3), 0);
    }
  }

  private static void gapsMadeMore() {
    Doc.says("GAPS MADE is 1 more (9999 at most).");
    WordHedge x = Due.told("slip in 3;slip in 3;slip in 3 high 199 up;lean 0 3 99");
    x.go(1);
    Due.is("one, not one a slip", x.now(2), 1);
    x.go(5);
    Due.is("still one", x.now(2), 1);
    WordHedge y = withLeaningsAtOpenPlaces();
    Due.goTo(y, 9999);
    Due.is("9999", y.now(2), 9999);
    y.go(1);
    Due.is("at most", y.now(2), 9999);
    Due.is("the year goes on", y.now(0), 10000);
  }

  private static void slipsGrow() {
    Doc.says("(2) SLIPS: HIGH is what each GROWS more (199 at most), THICK what it FILLS more (99 at most).");
    int[][] highAndDue = {{186, 198}, {187, 199}, {188, 199}, {199, 199}};
    for (int[] pair : highAndDue) {
      WordHedge x = Due.told("slip high " + pair[0]);
      x.go(1);
      Due.is("high of " + pair[0] + " in a year", x.of(0, 2), pair[1]);
    }
    int[][] thickAndDue = {{95, 98}, {96, 99}, {97, 99}, {99, 99}};
    for (int[] pair : thickAndDue) {
      WordHedge x = Due.told("slip up");
      x.change(0, 3, pair[0]);
      x.go(1);
      Due.is("thick of " + pair[0] + " in a year", x.of(0, 3), pair[1]);
    }
    WordHedge x = Due.told("hawthorn words 12 high 0");
    x.go(60);
    Due.is("growing by 0", x.of(0, 2), 0);
    Due.is("filling by 2", x.of(0, 3), 99);
  }

  private static void yearMore() {
    Doc.says("YEAR is one more (99999 at most).");
    WordHedge x = Due.told("may in 2");
    x.go(1);
    Due.is("a year", x.now(0), 1);
    Due.goTo(x, 99999);
    Due.is("year, beyond the 512 calls", x.now(0), 99999);
    Due.is("no more: no multiple of 5", x.ahead(0, 9, 1), 99 + 8);
    Due.is("nor ever", x.ahead(0, 9, 100), 99 + 8);
  }

  /** z from 1: 1103527590, 2524885223, 662824084, 3295386429; by 256: 4310654, 9862832, 2589156, 12872603. */
  private static void draws() {
    Doc.says("DRAWS: z is told (1 at first); each makes it z * 1103515245 + 12345 (an int), and gives z >>> 8.");
    WordHedge x = new WordHedge();
    Due.is("z at first", x.count(6), 1);
    x.leans(1);
    Due.is("z wraps around", x.count(6), (int) 2524885223L);
    Due.is("of z above, of z below 0", x.leaning(0), 100 * (4310654 % 16) + 9862832 % 100);
    x.leans(1);
    Due.is("z then", x.count(6), (int) 3295386429L);
    Due.is("draws 3 and 4", x.leaning(1), 100 * (2589156 % 16) + 12872603 % 100);
    int[] starts = {0, -1, Integer.MAX_VALUE, Integer.MIN_VALUE};
    for (int start : starts) {
      WordHedge y = new WordHedge();
      y.seed(start);
      y.leans(1);
      int first = start * 1103515245 + 12345;
      int second = first * 1103515245 + 12345;
      Due.is("z from " + start, y.count(6), second);
      Due.is("draws from " + start, y.leaning(0), 100 * ((first >>> 8) % 16) + (second >>> 8) % 100);
    }
  }

  private static void spots() {
    Doc.says("SPOTS 0 to 9 hold a SLIP or nothing (at first).");
    WordHedge x = Due.told("slip");
    for (int spot = 0; spot <= 9; spot++) {
      Due.is("spot " + spot + " at first", x.as(spot, 0), Due.MISSING);
      Due.is("held so far", x.count(7), spot);
      Due.is("hold " + spot, x.hold(spot, 0), 1);
      Due.is("spot " + spot, x.as(spot, 0), 0);
    }
    Due.is("all hold", x.count(7), 10);
    Edge.range("a spot", 0, 9, (y, v) -> y.hold(v, 0));
  }

  private static void sheets() {
    Doc.says("SHEETS 0 to 3: rows of at most 40 numbers of 8, 16 or 32 bits "
        + "(told with their sign: of 8 bits 255 is -1), or MISSING (at first).");
    WordHedge x = Due.told("slip");
    for (int s = 0; s <= 3; s++) {
      Due.is("sheet " + s + " at first", x.load(s), Due.MISSING);
    }
    Edge.range("a sheet", 0, 3, (y, v) -> y.sheet(v, 8, 1));
    Edge.range("number of a sheet of 40", 0, 39, TermsTest::withFortyNumbers, (y, v) -> y.write(0, v, 1));
    Due.fillBits(x, 0, 8, 255);
    Due.is("255 of 8 bits is any", x.fits(0, 0), 65535);
    Due.fillBits(x, 1, 16, 65535);
    Due.is("65535 of 16 bits is any", x.fits(1, 0), 65535);
    Due.fillBits(x, 1, 16, 255);
    Due.is("255 of 16 bits is not", x.fits(1, 0), 0);
    Due.fillBits(x, 0, 8, 127, 128);
    Due.is("127 of 8 bits is above 0, 128 below", x.load(0), 1);
    Due.fillBits(x, 1, 16, 1599, 32768);
    Due.is("32768 of 16 bits is below 0", x.load(1), 1);
    Due.fillBits(x, 2, 32, 1599, 65536 + 5);
    Due.is("65541 of 32 bits is above 1599", x.load(2), 1);
  }

  private static WordHedge withFortyNumbers() {
    WordHedge x = Edge.full();
    x.sheet(0, 8, 40);
    return x;
  }
}
