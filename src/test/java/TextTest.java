/** Promises 29 to 31: the tape and its texts. */
public final class TextTest {
  public static void main(String[] args) {
    feed();
    wipe();
    items();
    slips();
    blanks();
    faults();
    faultsOfNumbers();
    faultsOfBytes();
    ninth();
    allOrNothing();
    Due.end();
  }

  private static void feed() {
    WordHedge x = new WordHedge();
    Due.is("four bytes, the highest first", x.feed(('m' << 24) + ('a' << 16) + ('y' << 8) + ';', 4), 4);
    Due.is("three of four", x.feed(('!' << 24) + ('m' << 16) + ('a' << 8) + 'y', 3), 7);
    Due.is("two", x.feed((';' << 8) + 'm', 2), 9);
    Due.is("one", x.feed(('!' << 8) + 'a', 1), 10);
    Due.is("n 0", x.feed(0, 0), Due.BEYOND);
    Due.is("n -1", x.feed(0, -1), Due.BEYOND);
    Due.is("n 5", x.feed(0, 5), Due.BEYOND);
    Due.is("10 bytes", x.count(5), 10);
    x.feed('y', 1);
    Due.is("may;may;may", x.text(), 3);
    for (int i = 1; i <= 118; i++) {
      Due.is("feed " + i, x.feed(' ', 1), i);
    }
    Due.is("3 more are too many", x.feed(0x202020, 3), Due.FULL);
    Due.is("they didn't come", x.count(5), 118);
    Due.is("n ahead of that", x.feed(0, 5), Due.BEYOND);
    Due.is("2 more", x.feed(0x2020, 2), 120);
    Due.is("1 more", x.feed(0x20, 1), Due.FULL);
    Due.is("blanks are no text", x.text(), -121);
  }

  private static void wipe() {
    WordHedge x = new WordHedge();
    Due.is("nothing", x.wipe(), 0);
    Due.feed(x, "may ");
    Due.is("four", x.wipe(), 4);
    Due.is("none then", x.count(5), 0);
    Due.is("wiped", Due.read(x, "slip"), 1);
    Due.is("only that", x.count(1), 1);
    Due.is("text empties it", x.wipe(), 0);
  }

  private static void items() {
    WordHedge x = new WordHedge();
    Due.is("hurdles", Due.read(x, "hurdles 65535;hurdles 9;slip;lean 5 15 99;lean 0 0 0"), 5);
    Due.is("the last of the hurdles", x.now(3), 9);
    Due.is("leaning 5", x.leaning(5), 1599);
    Due.is("lean 5 again", Due.read(x, "lean 5 3 7;hurdles 0"), 2);
    Due.is("leaning 5 then", x.leaning(5), 307);
    Due.is("hurdles then", x.now(3), 0);
  }

  private static void traits(WordHedge x, String name, int slip, int... due) {
    for (int what = 0; what < due.length; what++) {
      Due.is(name + ", trait " + what, x.of(slip, what), due[what]);
    }
  }

  private static void slips() {
    String[] kinds = {"slip", "hawthorn", "promise", "latin", "elegy", "slipper", "may"};
    WordHedge x = new WordHedge();
    for (int kind = 0; kind < 7; kind++) {
      Due.is(kinds[kind], Due.read(x, kinds[kind]), 1);
      traits(x, kinds[kind], kind, kind, 0, 20, 5, 0, 4, 0);
    }
    x = new WordHedge();
    Due.is("all parts", Due.read(x, "may in 15 words 12 high 199 up;elegy in 0 words 1 high 0 down"), 2);
    traits(x, "all parts", 0, 6, 15, 199, 5, 1, 12, 0);
    traits(x, "the least", 1, 4, 0, 0, 5, 2, 1, 0);
    Due.is("parts", Due.read(x, "slip in 3 high 7;slip words 7 up;slip high 9 down;slip in 2;slip words 2"), 5);
    traits(x, "in and high", 2, 0, 3, 7, 5, 0, 4, 0);
    traits(x, "words and up", 3, 0, 0, 20, 5, 1, 7, 0);
    traits(x, "high and down", 4, 0, 0, 9, 5, 2, 4, 0);
    traits(x, "in", 5, 0, 2, 20, 5, 0, 4, 0);
    traits(x, "words", 6, 0, 0, 20, 5, 0, 2, 0);
  }

  private static void blanks() {
    WordHedge x = new WordHedge();
    Due.is("none where none are wanted", Due.read(x, "may in3words2high4up;hurdles8;slip"), 3);
    traits(x, "close", 0, 6, 3, 4, 5, 1, 2, 0);
    Due.is("many", Due.read(x, "  may   in   4  ;   slip  down  "), 2);
    traits(x, "wide", 2, 6, 4, 20, 5, 0, 4, 0);
    traits(x, "wide down", 3, 0, 0, 20, 5, 2, 4, 0);
    Due.is("zeros ahead", Due.read(x, "may in 00000000000000000000015"), 1);
    Due.is("in 15", x.of(4, 1), 15);
    Due.is("a word as long as can be", Due.read(x, "mayin 3"), -1);
    Due.is("and a number", Due.read(x, "lean 0 0 0 1"), -12);
    Due.is("so two are one", Due.read(x, "lean 0 00"), -10);
  }

  private static void fault(String text, int place) {
    WordHedge x = new WordHedge();
    Due.is("fault of '" + text + "'", Due.read(x, text), -1 - place);
    Due.is("tape behind '" + text + "'", x.count(5), 0);
    Due.is("findings behind '" + text + "'", x.status(-1), 0);
    Due.is("slips behind '" + text + "'", x.count(1), 0);
  }

  private static void faults() {
    fault("", 0);
    fault("   ", 3);
    fault(";", 0);
    fault("5", 0);
    fault(" bramble", 1);
    fault("in 5", 0);
    fault("up", 0);
    fault("may;", 4);
    fault("may ; ", 6);
    fault("may;;may", 4);
    fault("may 5", 4);
    fault("may may", 4);
    fault("may hurdles 3", 4);
    fault("may in", 6);
    fault("may in  ", 8);
    fault("may in;", 6);
    fault("may in up", 7);
    fault("may in 5 in 6", 9);
    fault("may in 5 6", 9);
    fault("may words", 9);
    fault("may words in", 10);
    fault("may words 5 in 5", 12);
    fault("may high", 8);
    fault("may high 5 words 5", 11);
    fault("may up high 5", 7);
    fault("may up down", 7);
    fault("may down down", 9);
    fault("hurdles", 7);
    fault("hurdles ;", 8);
    fault("hurdles 1 2", 10);
    fault("hurdles up", 8);
    fault("lean", 4);
    fault("lean 0", 6);
    fault("lean 0 0 ", 9);
    fault("lean 0 0;", 8);
    fault("lean 0 0 0 0", 11);
    fault("lean up", 5);
    fault("ma", 0);
    fault("lay", 0);
    fault("mat", 0);
    fault("mayz", 0);
    fault("maya", 0);
    fault("leen 0 0 0", 0);
    fault("may of 3", 4);
    fault("slippers", 0);
    fault("slippe", 0);
  }

  private static void faultsOfNumbers() {
    fault("may in 16", 7);
    fault("may in 99999999999999999999", 7);
    fault("may in 4294967296", 7);
    fault("may words 0", 10);
    fault("may words 13", 10);
    fault("may high 200", 9);
    fault("hurdles 65536", 8);
    fault("hurdles 100000", 8);
    fault("hurdles 4294967297 hurdles", 8);
    fault("lean 6 0 0", 5);
    fault("lean 0 16 0", 7);
    fault("lean 0 0 100", 9);
    fault("may; may in 16", 12);
  }

  private static void faultsOfBytes() {
    fault("May", 0);
    fault("may,may", 3);
    fault("may in -1", 7);
    fault("mayZ", 3);
    fault("may\t", 3);
    fault("may\n;may", 3);
    fault("may " + (char) 233, 4);
    fault("may" + (char) 0, 3);
    fault("" + (char) 187, 0);
    fault("may`", 3);
    fault("may{", 3);
    fault("hurdles 1/", 9);
    fault("hurdles 1:", 9);
    Due.is("a to z", Due.read(new WordHedge(), "hawthorn;promise;elegy;may"), 4);
    fault("abcdefghijklmnopqrstuvwxyz", 0);
    fault("hurdles 1 /", 10);
    fault("in/", 0);
  }

  private static void ninth() {
    WordHedge x = new WordHedge();
    Due.is("six", Due.read(x, "may;may;may;may;may;may"), 6);
    Due.is("a 9th", Due.read(x, "hurdles 3;may in 3;may;  slip in 77"), -26);
    Due.is("six still", x.count(1), 6);
    Due.is("no hurdles still", x.now(3), 0);
    Due.is("two more", Due.read(x, "may;may"), 2);
    Due.is("no more", Due.read(x, "may"), -1);
    Due.is("but hurdles", Due.read(x, "hurdles 5"), 1);
    Due.is("hurdles", x.now(3), 5);
  }

  private static void allOrNothing() {
    WordHedge x = Due.told("slip in 3;hurdles 6;lean 2 3 4");
    Due.is("fault", Due.read(x, "may;hurdles 9;lean 2 5 5;may in 16"), -33);
    Due.is("slips", x.count(1), 1);
    Due.is("hurdles", x.now(3), 6);
    Due.is("leaning", x.leaning(2), 304);
    Due.is("no finding", x.status(-1), 0);
    x.go(3);
    x.change(0, 6, 5);
    Due.is("the rest stays", Due.read(x, "may"), 1);
    Due.is("year", x.now(0), 3);
    Due.is("broke", x.of(0, 6), 5);
    Due.is("high", x.of(0, 2), 56);
  }
}
