/** The terms of texts and promises 29 to 31, sentence by sentence: the tape and its texts. */
public final class TextTest {
  public static void main(String[] args) {
    Doc.part("3. A TEXT", "SPOTS 0 to 9");
    tape();
    tokens();
    itemsOfAText();
    slips();
    hurdles();
    leanings();
    faults();
    faultsOfNumbers();
    faultsOfWords();
    faultsOfBytes();
    ninth();
    endsTooEarly();
    Doc.promise(29);
    feed();
    feedBeyond();
    feedFull();
    Doc.promise(30);
    wipe();
    Doc.promise(31);
    text();
    textWithAFault();
    Doc.end();
  }

  /** The text is read on a hedge of some of everything; only the tape may change. */
  private static void fault(String text, int place) {
    Due.is("fault of '" + text + "'", Due.read(new WordHedge(), text), -1 - place);
    Edge.changesNothing("fault of '" + text + "'", x -> {
      x.wipe();
      Due.read(x, text);
      Due.is("tape behind '" + text + "'", x.count(5), 0);
      return x.feed(('m' << 16) + ('a' << 8) + 'y', 3);
    });
  }

  private static void good(String text, int items) {
    Due.is("text of '" + text + "'", Due.read(new WordHedge(), text), items);
  }

  private static void tape() {
    Doc.says("3. A TEXT is read from THE TAPE (bytes, at most 120).");
    WordHedge x = new WordHedge();
    for (int i = 1; i <= 120; i++) {
      Due.is("byte " + i, x.feed(i < 118 ? ' ' : "may".charAt(i - 118), 1), i);
    }
    Due.is("byte 121", x.feed(';', 1), Due.FULL);
    Due.is("120 bytes", x.count(5), 120);
    Due.is("read to the last", x.text(), 1);
    WordHedge y = new WordHedge();
    String item = "hurdles 7;";
    Due.feed(y, item.repeat(11) + "hurdles 77");
    Due.is("12 items in 120 bytes", y.text(), 12);
    Due.is("the last of them", y.now(3), 77);
    good("hurdles 1" + " ".repeat(111), 1);
    good("hurdles " + "0".repeat(107) + "65535", 1);
    fault("hurdles " + "9".repeat(112), 8);
    fault("m".repeat(120), 0);
  }

  private static void tokens() {
    Doc.says("TOKENS, each as long as can be: WORDS (letters a to z), NUMBERS (digits, 99999 at most), SIGN ; ; "
        + "blanks may stand between.");
    WordHedge x = new WordHedge();
    Due.is("none where none are wanted", Due.read(x, "may in3words2high4up;hurdles8;slip"), 3);
    Due.traits(x, "close", 0, 6, 3, 4, 5, 1, 2, 0);
    Due.is("many", Due.read(x, "  may   in   4  ;   slip  down  "), 2);
    Due.traits(x, "wide", 2, 6, 4, 20, 5, 0, 4, 0);
    Due.traits(x, "wide down", 3, 0, 0, 20, 5, 2, 4, 0);
    Due.is("a number as long as can be", Due.read(x, "may in 15"), 1);
    Due.is("in 15", x.of(4, 1), 15);
    Due.is("zeros ahead", Due.read(x, "may in 00000000000000000000015"), 1);
    Due.is("in 15 too", x.of(5, 1), 15);
    good("hawthorn;promise;elegy;may", 4);
    fault("mayin 3", 0);
    fault("may inwords 3", 4);
    fault("slipslip", 0);
    fault("m ay", 0);
    fault("may in 1 5", 9);
    fault("lean 0 00", 9);
    fault("lean 000", 8);
    fault("may 99999", 4);
    fault("may 100000", 4);
    fault("hurdles 99999", 8);
    fault("hurdles 100000", 8);
    fault("hurdles 4294967296", 8);
  }

  private static void itemsOfAText() {
    Doc.says("TEXT: ITEM { ; ITEM }.");
    good("may", 1);
    good("may;may", 2);
    good("may;hurdles 1;lean 0 0 0;slip in 3", 4);
    fault("", 0);
    fault(";", 0);
    fault(";may", 0);
    fault("may;", 4);
    fault("may;;may", 4);
    fault("may may", 4);
    fault("may hurdles 3", 4);
    fault("hurdles 3 may", 10);
    fault("hurdles 3 3", 10);
    fault("lean 0 0 0 0", 11);
    fault("lean 0 0 0 may", 11);
  }

  private static void slips() {
    Doc.says("ITEM: slip, hawthorn, promise, latin, elegy, slipper or may, "
        + "perhaps in and a NUMBER (a PLACE; 0 without), "
        + "perhaps words and a NUMBER (1 to 12), perhaps high and a NUMBER (0 to 199), "
        + "perhaps up or down (LAID to greater, to lesser PLACES): a new one;");
    String[] kinds = {"slip", "hawthorn", "promise", "latin", "elegy", "slipper", "may"};
    WordHedge x = new WordHedge();
    for (int kind = 0; kind < 7; kind++) {
      Due.is(kinds[kind], Due.read(x, kinds[kind]), 1);
      Due.traits(x, kinds[kind], kind, kind, 0, 20, 5, 0, 4, 0);
    }
    x = new WordHedge();
    Due.is("all parts", Due.read(x, "may in 15 words 12 high 199 up;elegy in 0 words 1 high 0 down"), 2);
    Due.traits(x, "the most", 0, 6, 15, 199, 5, 1, 12, 0);
    Due.traits(x, "the least", 1, 4, 0, 0, 5, 2, 1, 0);
    Due.is("parts", Due.read(x, "slip in 3 high 7;slip words 7 up;slip high 9 down;slip in 2;slip words 2;slip up"), 6);
    Due.traits(x, "in and high", 2, 0, 3, 7, 5, 0, 4, 0);
    Due.traits(x, "words and up", 3, 0, 0, 20, 5, 1, 7, 0);
    Due.traits(x, "high and down", 4, 0, 0, 9, 5, 2, 4, 0);
    Due.traits(x, "in", 5, 0, 2, 20, 5, 0, 4, 0);
    Due.traits(x, "words", 6, 0, 0, 20, 5, 0, 2, 0);
    Due.traits(x, "up", 7, 0, 0, 20, 5, 1, 4, 0);
    fault("may in 16", 7);
    fault("may words 0", 10);
    fault("may words 13", 10);
    fault("may high 200", 9);
    fault("may in 5 in 6", 9);
    fault("may words 5 in 5", 12);
    fault("may words 5 words 5", 12);
    fault("may high 5 in 5", 11);
    fault("may high 5 words 5", 11);
    fault("may high 5 high 5", 11);
    fault("may up high 5", 7);
    fault("may up in 5", 7);
    fault("may up words 5", 7);
    fault("may up down", 7);
    fault("may up up", 7);
    fault("may down down", 9);
    fault("may down up", 9);
  }

  private static void hurdles() {
    Doc.says("hurdles, a NUMBER (0 to 65535);");
    WordHedge x = new WordHedge();
    Due.is("all", Due.read(x, "hurdles 65535"), 1);
    Due.is("all of them", x.now(3), 65535);
    Due.is("none", Due.read(x, "hurdles 0"), 1);
    Due.is("none of them", x.now(3), 0);
    Due.is("twice", Due.read(x, "hurdles 65535;hurdles 9"), 2);
    Due.is("the last of them", x.now(3), 9);
    fault("hurdles 65536", 8);
    fault("hurdles up", 8);
    fault("hurdles;", 7);
    fault("hurdles 1 up", 10);
  }

  private static void leanings() {
    Doc.says("lean, three NUMBERS (a place of THE LIST, 0 to 5, a PLACE, a WEIGHT, 0 to 99).");
    WordHedge x = new WordHedge();
    Due.is("the most", Due.read(x, "lean 5 15 99"), 1);
    Due.is("leaning 5", x.leaning(5), 1599);
    Due.is("the least", Due.read(x, "lean 0 15 99;lean 0 0 0"), 2);
    Due.is("leaning 0", x.leaning(0), 0);
    Due.is("leaning 5 stays", x.leaning(5), 1599);
    fault("lean 6 0 0", 5);
    fault("lean 0 16 0", 7);
    fault("lean 0 0 100", 9);
    fault("lean up", 5);
    fault("lean 0 up", 7);
    fault("lean 0 0 up", 9);
    fault("lean;", 4);
    fault("lean 0;", 6);
    fault("lean 0 0;", 8);
  }

  private static void faults() {
    Doc.says("FAULT: the place (from 0) of the first byte of the first TOKEN that can't stand there");
    fault("5", 0);
    fault("   5", 3);
    fault("in 5", 0);
    fault("may 5", 4);
    fault("may    5", 7);
    fault("may in;", 6);
    fault("may in ;", 7);
    fault("may in in 5", 7);
    fault("may in 5 6", 9);
    fault("may words in", 10);
    fault("may high up", 9);
    fault("may in 16 words 13", 7);
    fault("may in 77;oak", 7);
    fault("oak;may in 77", 0);
  }

  private static void faultsOfNumbers() {
    Doc.says("(a NUMBER that isn't as told,");
    fault("may in 016", 7);
    fault("may in 99", 7);
    fault("may in 99999999999999999999", 7);
    fault("may in 4294967296", 7);
    fault("may in 4294967299", 7);
    fault("may in 18446744073709551616", 7);
    fault("may words 00", 10);
    fault("may words 4294967297", 10);
    fault("may high 0200", 9);
    fault("hurdles 4294967297 hurdles", 8);
    fault("lean 4294967296 0 0", 5);
    fault("lean 0 99 100", 7);
    fault("may; may in 16", 12);
  }

  private static void faultsOfWords() {
    Doc.says("another WORD,");
    fault("oak", 0);
    fault("ma", 0);
    fault("lay", 0);
    fault("mat", 0);
    fault("mayz", 0);
    fault("slippe", 0);
    fault("slippers", 0);
    fault("leen 0 0 0", 0);
    fault("hurdle 3", 0);
    fault("words 3", 0);
    fault("up", 0);
    fault("may of 3", 4);
    fault("may ins 3", 4);
    fault("may word 3", 4);
    fault("may upp", 4);
    fault("may in 3 dawn", 9);
    fault("abcdefghijklmnopqrstuvwxyz", 0);
  }

  private static void faultsOfBytes() {
    Doc.says("a byte that begins no TOKEN,");
    fault("May", 0);
    fault("may,may", 3);
    fault("may in -1", 7);
    fault("may in +1", 7);
    fault("mayZ", 3);
    fault("may\t", 3);
    fault("may\n;may", 3);
    fault("may " + (char) 233, 4);
    fault("may" + (char) 0, 3);
    fault("" + (char) 187, 0);
    fault("" + (char) 255, 0);
    fault("may" + (char) 160, 3);
    fault("may`", 3);
    fault("may{", 3);
    fault("hurdles 1/", 9);
    fault("hurdles 1:", 9);
    fault("hurdles 1 /", 10);
    fault("hurdles 1!", 9);
    fault("in/", 0);
    for (int b = 0; b < 256; b++) {
      boolean begins = b == ' ' || b == ';' || b >= '0' && b <= '9' || b >= 'a' && b <= 'z';
      int due = !begins ? -4 : b == ' ' ? 1 : b == ';' ? -5 : b <= '9' ? -4 : -1;
      Due.is("may and byte " + b, Due.read(new WordHedge(), "may" + (char) b), due);
    }
  }

  private static void ninth() {
    Doc.says("the WORD of a 9th SLIP: its own),");
    WordHedge x = new WordHedge();
    Due.is("six", Due.read(x, "may;may;may;may;may;may"), 6);
    Due.is("a 9th", Due.read(x, "hurdles 3;may in 3;may;  slip in 77"), -26);
    Due.is("six still", x.count(1), 6);
    Due.is("no hurdles still", x.now(3), 0);
    Due.is("no 9th word, but another", Due.read(x, "may;may;oak"), -9);
    Due.is("two more", Due.read(x, "may;may"), 2);
    Due.is("no more", Due.read(x, "may"), -1);
    Due.is("no more in the end", Due.read(x, "hurdles 5; may"), -12);
    Due.is("but hurdles", Due.read(x, "hurdles 5;lean 0 1 2"), 2);
    Due.is("hurdles", x.now(3), 5);
    Due.is("nine at once", Due.read(new WordHedge(), "may;may;may;may;may;may;may;may;may"), -33);
    Due.is("eight at once", Due.read(new WordHedge(), "may;may;may;may;may;may;may;may"), 8);
  }

  private static void endsTooEarly() {
    Doc.says("or how many bytes there are if it ends too early.");
    fault("", 0);
    fault(" ", 1);
    fault("   ", 3);
    fault(" ".repeat(120), 120);
    fault("may;", 4);
    fault("may ; ", 6);
    fault("may in", 6);
    fault("may in  ", 8);
    fault("may in 15 words", 15);
    fault("may high", 8);
    fault("hurdles", 7);
    fault("lean", 4);
    fault("lean 0", 6);
    fault("lean 0 0", 8);
    fault("lean 0 0 ", 9);
    fault("hurdles 1;" + " ".repeat(110), 120);
  }

  private static void feed() {
    Doc.says("THE TAPE gets the n lowest bytes of a number behind it, "
        + "the highest of these first (n 1 to 4): how many it has.");
    WordHedge x = new WordHedge();
    Due.is("four bytes, the highest first", x.feed(('m' << 24) + ('a' << 16) + ('y' << 8) + ';', 4), 4);
    Due.is("three of four", x.feed(('!' << 24) + ('m' << 16) + ('a' << 8) + 'y', 3), 7);
    Due.is("two", x.feed(('!' << 16) + (';' << 8) + 'm', 2), 9);
    Due.is("one", x.feed(('!' << 8) + 'a', 1), 10);
    Due.is("of a number below 0", x.feed(-256 + 'y', 1), 11);
    Due.is("may;may;may", x.text(), 3);
    Due.is("bytes above 127", x.feed(-1, 4), 4);
    Due.is("begin no token", x.text(), -1);
    Due.is("a number below 0", x.feed(Integer.MIN_VALUE + ('a' << 16) + ('y' << 8), 4), 4);
    Due.is("byte 128 begins no token", x.text(), -1);
  }

  private static void feedBeyond() {
    Doc.says("BEYOND: n.");
    Edge.range("bytes", 1, 4, (x, v) -> x.feed(0x20202020, v));
    for (int n : new int[] {-1, 0, 5, 32, Integer.MAX_VALUE, Integer.MIN_VALUE}) {
      Edge.refused(n + " bytes on a full tape", Due.BEYOND, () -> withTape(120), x -> x.feed(0, n));
    }
  }

  private static WordHedge withTape(int bytes) {
    WordHedge x = Edge.full();
    x.wipe();
    Due.feed(x, " ".repeat(bytes - 3) + "may");
    return x;
  }

  private static void feedFull() {
    Doc.says("FULL.");
    for (int n = 1; n <= 4; n++) {
      int more = n;
      Due.is(n + " bytes make it 120", withTape(120 - n).feed(0x20202020, n), 120);
      Edge.Made nearlyFull = () -> withTape(121 - more);
      Edge.refused(n + " bytes would make it 121", Due.FULL, nearlyFull, x -> x.feed(0x3b3b3b3b, more));
      Edge.refused(n + " bytes on a full tape", Due.FULL, () -> withTape(120), x -> x.feed(0x3b3b3b3b, more));
    }
  }

  private static void wipe() {
    Doc.says("THE TAPE is empty: how many it had.");
    WordHedge x = new WordHedge();
    Due.is("nothing", x.wipe(), 0);
    Due.feed(x, "may ");
    Due.is("four", x.wipe(), 4);
    Due.is("none then", x.count(5), 0);
    Due.is("nothing again", x.wipe(), 0);
    Due.is("what comes then is all", Due.read(x, "slip"), 1);
    Due.is("one slip", x.count(1), 1);
    Due.is("a text empties it", x.wipe(), 0);
    Due.is("a full one", withTape(120).wipe(), 120);
  }

  private static void text() {
    Doc.says("THE TAPE is a TEXT, and empty then; all that it tells is so, item by item: how many ITEMS.");
    WordHedge x = Due.told("slip in 3");
    x.go(3);
    x.change(0, 6, 5);
    Due.is("items", Due.read(x, "hurdles 65535;hurdles 9;may;lean 5 15 99;lean 0 0 0;lean 5 1 1"), 6);
    Due.is("no bytes", x.count(5), 0);
    Due.is("the last of the hurdles", x.now(3), 9);
    Due.is("the last of the leanings", x.leaning(5), 101);
    Due.is("slips", x.count(1), 2);
    Due.traits(x, "a slip that was there", 0, 0, 3, 56, 8, 0, 4, 5);
    Due.traits(x, "a new one", 1, 6, 0, 20, 5, 0, 4, 0);
    Due.is("year as it was", x.now(0), 3);
    Due.is("the tape is no text any more", x.text(), -1);
    Due.is("slips still", x.count(1), 2);
  }

  private static void textWithAFault() {
    Doc.says("With a FAULT: -1 less the FAULT (nothing changes but that THE TAPE is empty; no finding).");
    WordHedge x = Due.told("slip in 3;hurdles 6;lean 2 3 4");
    Due.is("a fault behind much", Due.read(x, "may;hurdles 9;lean 2 5 5;may in 16"), -33);
    Due.is("no bytes", x.count(5), 0);
    Due.is("slips", x.count(1), 1);
    Due.is("hurdles", x.now(3), 6);
    Due.is("leaning", x.leaning(2), 304);
    Due.is("no finding", x.status(-1), 0);
    Due.is("at byte 0", Due.read(x, "oak"), -1);
    Due.is("at byte 119", Due.read(x, " ".repeat(119) + "5"), -120);
    Due.is("at byte 120", Due.read(x, " ".repeat(120)), -121);
    Due.is("no finding still", x.status(-1), 0);
    Due.is("the next is read", Due.read(x, "may"), 1);
    fault("may;hurdles 9;lean 2 5 5;may in 16", 32);
  }
}
