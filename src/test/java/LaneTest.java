/** Promises 1 to 9, sentence by sentence: a new object, the lane and its slips. */
public final class LaneTest {
  public static void main(String[] args) {
    Doc.promise(1);
    newObject();
    newWithoutSlips();
    newTape();
    newImage();
    Doc.promise(2);
    hurdles();
    hurdlesBeyond();
    Doc.promise(3);
    placeStrength();
    placeSlipsIn();
    placeCoverers();
    placeGap();
    placeBeyond();
    Doc.promise(4);
    lean();
    leanBeyond();
    Doc.promise(5);
    leaning();
    leaningBeyond();
    Doc.promise(6);
    slip();
    slipBeyond();
    slipFull();
    Doc.promise(7);
    of();
    ofBeyond();
    Doc.promise(8);
    change();
    changeBeyond();
    Doc.promise(9);
    cut();
    cutBeyond();
    Doc.end();
  }

  private static void newObject() {
    Doc.says("All as at first;");
    WordHedge x = new WordHedge();
    for (int what = 0; what <= 7; what++) {
      Due.is("count " + what, x.count(what), what == 2 ? 16 : what == 6 ? 1 : 0);
      Due.is("now " + what, x.now(what), what == 1 ? 65535 : 0);
    }
    for (int place = 0; place < 16; place++) {
      Due.is("strength of " + place, x.place(place, 0), 0);
      Due.is("gap in " + place, x.place(place, 3), 1);
    }
    for (int i = 0; i < 6; i++) {
      Due.is("leaning " + i, x.leaning(i), 0);
    }
    for (int which = -1; which <= 6; which++) {
      Due.is("status " + which, x.status(which), 0);
    }
    for (int spot = 0; spot < 10; spot++) {
      Due.is("spot " + spot, x.as(spot, 0), Due.MISSING);
    }
    for (int s = 0; s < 4; s++) {
      Due.is("sheet " + s, x.judge(s), Due.MISSING);
    }
  }

  private static void newWithoutSlips() {
    Doc.says("no SLIPS;");
    WordHedge x = new WordHedge();
    Due.is("slips", x.count(1), 0);
    Due.is("slip 0", x.of(0, 0), Due.BEYOND);
    Due.is("slips in 0", x.place(0, 1), 0);
    Due.is("slips over 0", x.place(0, 2), 0);
    Due.is("the first", x.slip(0, 0, 1), 0);
  }

  private static void newTape() {
    Doc.says("THE TAPE is empty,");
    WordHedge x = new WordHedge();
    Due.is("bytes", x.count(5), 0);
    Due.is("wipe", x.wipe(), 0);
    Due.is("text", x.text(), -1);
    Due.is("feed", x.feed('a', 1), 1);
  }

  private static void newImage() {
    Doc.says("no image is kept.");
    WordHedge x = new WordHedge();
    Due.is("undo", x.undo(), Due.NONE);
    Due.is("tear", x.tear(), 0);
  }

  private static void hurdles() {
    Doc.says("HURDLES become a set of PLACES: what they were.");
    WordHedge x = new WordHedge();
    Due.is("hurdles 5", x.hurdles(5), 0);
    Due.is("all hurdles", x.hurdles(65535), 5);
    for (int place = 0; place < 16; place++) {
      Due.is("strength of " + place, x.place(place, 0), 40);
    }
    Due.is("no hurdles", x.hurdles(0), 65535);
    Due.is("none", x.now(3), 0);
    Due.is("the last place", x.hurdles(32768), 0);
    Due.is("strength of 15", x.place(15, 0), 40);
    Due.is("strength of 14", x.place(14, 0), 0);
    Due.is("the first place", x.hurdles(1), 32768);
    Due.is("strength of 0", x.place(0, 0), 40);
    Due.is("strength of 1", x.place(1, 0), 0);
    Due.is("as they are", x.hurdles(1), 1);
  }

  private static void hurdlesBeyond() {
    Doc.says("BEYOND.");
    Edge.range("hurdles", 0, 65535, (x, v) -> x.hurdles(v));
  }

  private static WordHedge lane() {
    return Due.told("slip in 3 high 80 up;promise in 5;slip in 5 high 40 down;hurdles 33");
  }

  private static void isPlaced(WordHedge x, int what, int... due) {
    for (int place = 0; place < due.length; place++) {
      Due.is("place " + place + ", what " + what, x.place(place, what), due[place]);
    }
  }

  private static void placeStrength() {
    Doc.says("Of a PLACE: what 0 STRENGTH,");
    isPlaced(lane(), 0, 40, 0, 0, 5, 5 + 5, 40 + 5 + 15 + 5, 0, 0, 0, 0, 0, 0, 0, 0, 0, 0);
    isPlaced(Due.told("slip in 15;slip in 15;slip in 0"), 0, 5, 0, 0, 0, 0, 0, 0, 0, 0, 0, 0, 0, 0, 0, 0, 10);
  }

  private static void placeSlipsIn() {
    Doc.says("1 SLIPS IN it, as a set,");
    isPlaced(lane(), 1, 0, 0, 0, 1, 0, 6, 0, 0, 0, 0, 0, 0, 0, 0, 0, 0);
    WordHedge x = new WordHedge();
    for (int i = 0; i < 8; i++) {
      x.slip(0, 15, 1);
    }
    Due.is("all eight", x.place(15, 1), 255);
    x.change(7, 1, 0);
    Due.is("the eighth", x.place(0, 1), 128);
    Due.is("all others", x.place(15, 1), 127);
  }

  private static void placeCoverers() {
    Doc.says("2 SLIPS that COVER it, as a set,");
    isPlaced(lane(), 2, 0, 0, 0, 1, 1 + 4, 1 + 2 + 4, 0, 0, 0, 0, 0, 0, 0, 0, 0, 0);
    WordHedge x = new WordHedge();
    for (int i = 0; i < 8; i++) {
      x.slip(3, 8 + i, 1);
      x.change(i, 2, 199);
      x.change(i, 4, 2);
    }
    Due.is("all eight, of 7 places beside it", x.place(8, 2), 255);
    Due.is("all but the last", x.place(7, 2), 255);
    Due.is("7 of these", x.place(6, 2), 127);
    Due.is("the first, of the begin", x.place(0, 2), 1);
    Due.is("the last, of the end", x.place(15, 2), 128);
  }

  private static void placeGap() {
    Doc.says("3 whether it is a GAP (1, 0).");
    isPlaced(lane(), 3, 0, 1, 1, 0, 0, 0, 1, 1, 1, 1, 1, 1, 1, 1, 1, 1);
    WordHedge x = Due.told("slip in 15");
    x.change(0, 3, 0);
    Due.is("covered by no strength", x.place(15, 3), 0);
    Due.is("beside it", x.place(14, 3), 1);
  }

  private static void placeBeyond() {
    Doc.says("BEYOND.");
    for (int what = 0; what <= 3; what++) {
      int asked = what;
      Edge.range("place, what " + what, 0, 15, (x, v) -> x.place(v, asked));
    }
    Edge.range("what of place", 0, 3, (x, v) -> x.place(15, v));
  }

  private static void lean() {
    Doc.says("THE LIST tells in place i (0 to 5) a LEANING AT a PLACE with a WEIGHT (0 to 99): "
        + "which it was (100 * PLACE and WEIGHT).");
    WordHedge x = new WordHedge();
    Due.is("lean 0 15 99", x.lean(0, 15, 99), 0);
    Due.is("lean 5 1 2", x.lean(5, 1, 2), 0);
    int[] due = {1599, 0, 0, 0, 0, 102};
    for (int i = 0; i < 6; i++) {
      Due.is("leaning " + i, x.leaning(i), due[i]);
    }
    Due.is("lean 0 0 0", x.lean(0, 0, 0), 1599);
    Due.is("lean 0 0 99", x.lean(0, 0, 99), 0);
    Due.is("lean 0 1 0", x.lean(0, 1, 0), 99);
    Due.is("lean 0 1 0 again", x.lean(0, 1, 0), 100);
    Due.is("lean 5 15 0", x.lean(5, 15, 0), 102);
    Due.is("leaning 5", x.leaning(5), 1500);
  }

  private static void leanBeyond() {
    Doc.says("BEYOND.");
    Edge.range("place of the list", 0, 5, (x, v) -> x.lean(v, 1, 1));
    Edge.range("place of a leaning", 0, 15, (x, v) -> x.lean(5, v, 1));
    Edge.range("weight", 0, 99, (x, v) -> x.lean(5, 15, v));
  }

  private static void leaning() {
    Doc.says("The LEANING in a place of THE LIST.");
    WordHedge x = new WordHedge();
    for (int i = 0; i < 6; i++) {
      x.lean(i, 15 - i, i * 19);
    }
    for (int i = 0; i < 6; i++) {
      Due.is("leaning " + i, x.leaning(i), 100 * (15 - i) + 19 * i);
    }
    Edge.changesNothing("leaning", y -> y.leaning(5));
  }

  private static void leaningBeyond() {
    Doc.says("BEYOND.");
    Edge.range("place of the list", 0, 5, (x, v) -> x.leaning(v));
  }

  private static void slip() {
    Doc.says("A new SLIP IN a PLACE, of so many WORDS: its number.");
    WordHedge x = new WordHedge();
    for (int i = 0; i < 8; i++) {
      Due.is("slip " + i, x.slip(i % 7, 15 - i, 12 - i), i);
    }
    for (int i = 0; i < 8; i++) {
      Due.traits(x, "slip " + i, i, i % 7, 15 - i, 20, 5, 0, 12 - i, 0);
    }
    x = Due.told("slip in 3 high 7 up");
    Due.is("behind one of a text", x.slip(6, 0, 1), 1);
    Due.traits(x, "the least words", 1, 6, 0, 20, 5, 0, 1, 0);
  }

  private static void slipBeyond() {
    Doc.says("BEYOND.");
    Edge.range("kind", 0, 6, (x, v) -> x.slip(v, 15, 12));
    Edge.range("place", 0, 15, (x, v) -> x.slip(6, v, 12));
    Edge.range("words", 1, 12, (x, v) -> x.slip(6, 15, v));
    Edge.refused("no kind when there are eight", Due.BEYOND, Edge::withEightSlips, x -> x.slip(-1, 0, 1));
    Edge.refused("no place when there are eight", Due.BEYOND, Edge::withEightSlips, x -> x.slip(0, 16, 1));
    Edge.refused("no words when there are eight", Due.BEYOND, Edge::withEightSlips, x -> x.slip(0, 0, 13));
  }

  private static void slipFull() {
    Doc.says("FULL.");
    WordHedge x = new WordHedge();
    for (int i = 0; i < 7; i++) {
      x.slip(0, 0, 1);
    }
    Due.is("the 8th", x.slip(0, 0, 1), 7);
    Due.is("the 9th", x.slip(0, 0, 1), Due.FULL);
    Edge.refused("a 9th", Due.FULL, Edge::withEightSlips, y -> y.slip(6, 15, 12));
  }

  private static void of() {
    Doc.says("Of a SLIP: what 0 KIND, 1 PLACE, 2 HIGH, 3 THICK, 4 LAID, 5 WORDS, 6 BROKE, 7 REACHES, "
        + "8 COVERS, as a set, 9 STRONG, 10 GROWS, 11 FILLS.");
    WordHedge x = Due.told("slip;may in 4 words 2 high 100 down");
    x.change(1, 6, 7);
    Due.traits(x, "a may", 1, 6, 4, 100, 5, 2, 2, 7, 3, 2 + 4 + 8 + 16, 20, 14, 4);
    Due.traits(x, "a slip", 0, 0, 0, 20, 5, 0, 4, 0, 0, 1, 5, 12, 1);
    x.change(0, 2, 199);
    Due.is("upright, it reaches as if it were laid", x.of(0, 7), 4);
    Due.is("upright, it covers its place", x.of(0, 8), 1);
    WordHedge eight = Edge.withEightSlips();
    Due.is("the eighth", eight.of(7, 1), 14);
    Edge.changesNothing("of", y -> y.of(2, 11));
  }

  private static void ofBeyond() {
    Doc.says("BEYOND.");
    Edge.range("slip", 0, 2, (x, v) -> x.of(v, 0));
    Edge.range("what", 0, 11, (x, v) -> x.of(2, v));
    Edge.range("slip of eight", 0, 7, Edge::withEightSlips, (x, v) -> x.of(v, 11));
    Edge.refused("what 12 of slip 8", Due.BEYOND, Edge::withEightSlips, x -> x.of(8, 12));
    Edge.refused("slip 0 of none", Due.BEYOND, WordHedge::new, x -> x.of(0, 0));
  }

  private static void change() {
    Doc.says("KIND (what 0), PLACE (1), HIGH (2), THICK (3), LAID (4), WORDS (5), "
        + "BROKE (6) of a SLIP becomes v: what it was.");
    WordHedge x = Due.told("slip;slip");
    int[] first = {0, 0, 20, 5, 0, 4, 0};
    int[] least = {0, 0, 0, 0, 0, 1, 0};
    int[] most = {6, 15, 199, 99, 2, 12, 9999};
    for (int what = 0; what < 7; what++) {
      Due.is("change " + what + " to the most", x.change(1, what, most[what]), first[what]);
      Due.is("changed " + what, x.of(1, what), most[what]);
      Due.is("the other's " + what, x.of(0, what), first[what]);
    }
    Due.traits(x, "all at the most", 1, most);
    for (int what = 0; what < 7; what++) {
      Due.is("change " + what + " to the least", x.change(1, what, least[what]), most[what]);
      Due.is("changed " + what + " then", x.of(1, what), least[what]);
      Due.is("as it is " + what, x.change(1, what, least[what]), least[what]);
    }
    Due.traits(x, "all at the least", 1, least);
    Due.traits(x, "the other", 0, first);
  }

  private static void changeBeyond() {
    Doc.says("BEYOND.");
    Edge.range("kind", 0, 6, (x, v) -> x.change(2, 0, v));
    Edge.range("place", 0, 15, (x, v) -> x.change(2, 1, v));
    Edge.range("high", 0, 199, (x, v) -> x.change(2, 2, v));
    Edge.range("thick", 0, 99, (x, v) -> x.change(2, 3, v));
    Edge.range("laid", 0, 2, (x, v) -> x.change(2, 4, v));
    Edge.range("words", 1, 12, (x, v) -> x.change(2, 5, v));
    Edge.range("broke", 0, 9999, (x, v) -> x.change(2, 6, v));
    Edge.range("what", 0, 6, (x, v) -> x.change(2, v, 1));
    for (int what = 7; what <= 12; what++) {
      int asked = what;
      Edge.refused("what " + what + " becomes 0", Due.BEYOND, x -> x.change(2, asked, 0));
      Edge.refused("what " + what + " becomes -1", Due.BEYOND, x -> x.change(2, asked, -1));
    }
    Edge.range("slip", 0, 2, (x, v) -> x.change(v, 1, 1));
    Edge.range("slip of eight", 0, 7, Edge::withEightSlips, (x, v) -> x.change(v, 1, 1));
  }

  private static void cut() {
    Doc.says("A SLIP is cut to HIGH v (0 to 199), if it is higher: by how much.");
    WordHedge x = Due.told("slip;slip high 199");
    Due.is("199 to 199", x.cut(1, 199), 0);
    Due.is("199 to 198", x.cut(1, 198), 1);
    Due.is("198 to 30", x.cut(1, 30), 168);
    Due.is("30 to 31", x.cut(1, 31), 0);
    Due.is("30 stays", x.of(1, 2), 30);
    Due.is("30 to 30", x.cut(1, 30), 0);
    Due.is("30 to 199", x.cut(1, 199), 0);
    Due.is("30 to 0", x.cut(1, 0), 30);
    Due.is("0 to 0", x.cut(1, 0), 0);
    Due.traits(x, "only high", 1, 0, 0, 0, 5, 0, 4, 0);
    Due.is("the other", x.of(0, 2), 20);
  }

  private static void cutBeyond() {
    Doc.says("BEYOND.");
    Edge.range("slip", 0, 2, (x, v) -> x.cut(v, 1));
    Edge.range("high", 0, 199, (x, v) -> x.cut(2, v));
    Edge.range("slip of eight", 0, 7, Edge::withEightSlips, (x, v) -> x.cut(v, 1));
  }
}
