/** Promises 1 to 9: a new object, the lane and its slips. */
public final class LaneTest {
  public static void main(String[] args) {
    newObject();
    hurdles();
    place();
    lean();
    slip();
    reaches();
    covers();
    strong();
    grows();
    fills();
    of();
    change();
    cut();
    Due.end();
  }

  private static void newObject() {
    WordHedge x = new WordHedge();
    for (int what = 0; what <= 7; what++) {
      Due.is("new: count " + what, x.count(what), what == 2 ? 16 : what == 6 ? 1 : 0);
      if (what != 1) Due.is("new: now " + what, x.now(what), 0);
    }
    Due.is("new: gaps", x.now(1), 65535);
    for (int i = 0; i < 6; i++) {
      Due.is("new: leaning " + i, x.leaning(i), 0);
    }
    for (int spot = 0; spot < 10; spot++) {
      Due.is("new: spot " + spot, x.as(spot, 0), Due.MISSING);
    }
    for (int s = 0; s < 4; s++) {
      Due.is("new: sheet " + s, x.judge(s), Due.MISSING);
    }
    Due.is("new: wipe", x.wipe(), 0);
    Due.is("new: undo", x.undo(), Due.NONE);
    Due.is("new: tear", x.tear(), 0);
  }

  private static void hurdles() {
    WordHedge x = new WordHedge();
    Due.is("hurdles 5", x.hurdles(5), 0);
    Due.is("hurdles 65535", x.hurdles(65535), 5);
    Due.is("hurdles -1", x.hurdles(-1), Due.BEYOND);
    Due.is("hurdles 65536", x.hurdles(65536), Due.BEYOND);
    Due.is("hurdles 0", x.hurdles(0), 65535);
    Due.is("hurdles as they are", x.now(3), 0);
  }

  private static void place() {
    WordHedge x = Due.told("slip in 3 high 80 up;promise in 5;slip in 5 high 40 down;hurdles 33");
    Due.is("strength of 0", x.place(0, 0), 40);
    Due.is("strength of 3", x.place(3, 0), 5);
    Due.is("strength of 4", x.place(4, 0), 10);
    Due.is("strength of 5", x.place(5, 0), 40 + 5 + 15 + 5);
    Due.is("slips in 5", x.place(5, 1), 6);
    Due.is("slips in 4", x.place(4, 1), 0);
    Due.is("slips over 4", x.place(4, 2), 5);
    Due.is("slips over 5", x.place(5, 2), 7);
    Due.is("slips over 6", x.place(6, 2), 0);
    Due.is("a hurdle is no gap", x.place(0, 3), 0);
    Due.is("a covered one is no gap", x.place(4, 3), 0);
    Due.is("gap 6", x.place(6, 3), 1);
    Due.is("gap 15", x.place(15, 3), 1);
    Due.is("place -1", x.place(-1, 0), Due.BEYOND);
    Due.is("place 16", x.place(16, 0), Due.BEYOND);
    Due.is("what -1", x.place(0, -1), Due.BEYOND);
    Due.is("what 4", x.place(0, 4), Due.BEYOND);
  }

  private static void lean() {
    WordHedge x = new WordHedge();
    Due.is("lean 0 15 99", x.lean(0, 15, 99), 0);
    Due.is("lean 5 1 2", x.lean(5, 1, 2), 0);
    Due.is("leaning 0", x.leaning(0), 1599);
    Due.is("leaning 5", x.leaning(5), 102);
    Due.is("lean 0 0 0", x.lean(0, 0, 0), 1599);
    Due.is("leaning 0 then", x.leaning(0), 0);
    Due.is("lean -1", x.lean(-1, 0, 0), Due.BEYOND);
    Due.is("lean 6", x.lean(6, 0, 0), Due.BEYOND);
    Due.is("lean at -1", x.lean(5, -1, 0), Due.BEYOND);
    Due.is("lean at 16", x.lean(5, 16, 0), Due.BEYOND);
    Due.is("lean of -1", x.lean(5, 0, -1), Due.BEYOND);
    Due.is("lean of 100", x.lean(5, 0, 100), Due.BEYOND);
    Due.is("leaning 5 then", x.leaning(5), 102);
    Due.is("leaning -1", x.leaning(-1), Due.BEYOND);
    Due.is("leaning 6", x.leaning(6), Due.BEYOND);
  }

  private static void slip() {
    WordHedge x = new WordHedge();
    Due.is("kind -1", x.slip(-1, 0, 1), Due.BEYOND);
    Due.is("kind 7", x.slip(7, 0, 1), Due.BEYOND);
    Due.is("place -1", x.slip(0, -1, 1), Due.BEYOND);
    Due.is("place 16", x.slip(0, 16, 1), Due.BEYOND);
    Due.is("no words", x.slip(0, 0, 0), Due.BEYOND);
    Due.is("13 words", x.slip(0, 0, 13), Due.BEYOND);
    Due.is("no slip yet", x.count(1), 0);
    for (int i = 0; i < 8; i++) {
      Due.is("slip " + i, x.slip(i % 7, 15 - i, 12 - i), i);
    }
    Due.is("a 9th", x.slip(0, 0, 1), Due.FULL);
    Due.is("a 9th that is none", x.slip(0, 0, 13), Due.BEYOND);
    Due.is("eight", x.count(1), 8);
    int[] first = {6, 9, 20, 5, 0, 6, 0};
    for (int what = 0; what < first.length; what++) {
      Due.is("trait " + what + " of slip 6", x.of(6, what), first[what]);
    }
  }

  /** Slip 0 becomes a high one of each kind in turn; what is asked of it must be as told, by kind. */
  private static void byKind(WordHedge x, String name, int what, int... due) {
    for (int kind = 0; kind < due.length; kind++) {
      x.change(0, 0, kind);
      Due.is(name + " of kind " + kind, x.of(0, what), due[kind]);
    }
  }

  private static void reaches() {
    WordHedge x = Due.told("slip words 4 high 119 up");
    byKind(x, "reach, 4 words", 7, 2, 3, 2, 4, 3, 0, 3);
    x.change(0, 5, 5);
    byKind(x, "reach, 5 words", 7, 2, 2, 2, 4, 3, 0, 2);
    x.change(0, 4, 0);
    byKind(x, "reach, upright", 7, 2, 2, 2, 4, 3, 0, 2);
    x.change(0, 2, 39);
    byKind(x, "reach, low", 7, 0, 0, 0, 0, 0, 0, 0);
    x.change(0, 2, 40);
    byKind(x, "reach, 40 high", 7, 1, 1, 1, 2, 1, 0, 1);
  }

  private static void covers() {
    WordHedge x = Due.told("slip in 3 high 80;slip in 3 high 80 up;slip in 3 high 80 down");
    Due.read(x, "latin in 14 high 199 up;elegy in 1 high 199 down;slipper in 7 high 199 up");
    Due.is("upright", x.of(0, 8), 8);
    Due.is("up", x.of(1, 8), 8 + 16 + 32);
    Due.is("down", x.of(2, 8), 8 + 4 + 2);
    Due.is("over the end", x.of(3, 8), (1 << 14) + (1 << 15));
    Due.is("over the begin", x.of(4, 8), 3);
    Due.is("reaching none", x.of(5, 8), 128);
    x.change(1, 1, 15);
    Due.is("at the end", x.of(1, 8), 1 << 15);
    x.change(2, 1, 0);
    Due.is("at the begin", x.of(2, 8), 1);
  }

  private static void strong() {
    WordHedge x = Due.told("slip words 3 high 104");
    x.change(0, 3, 21);
    byKind(x, "strong, upright", 9, 21, 30, 31, 31, 51, 10, 35);
    x.change(0, 4, 1);
    byKind(x, "strong, up", 9, 21, 30, 21, 21, 41, 10, 35);
    x.change(0, 4, 2);
    byKind(x, "strong, down", 9, 21, 30, 21, 21, 41, 10, 35);
    for (int year = 1; year <= 5; year++) {
      x.go(1);
      x.change(0, 3, 21);
      Due.is("may in year " + year, x.of(0, 9), year == 5 ? 35 : 30);
    }
  }

  private static void grows() {
    WordHedge x = Due.told("slip words 5");
    byKind(x, "grows, upright", 10, 12, 7, 12, 17, 8, 3, 11);
    x.change(0, 4, 1);
    byKind(x, "grows, up", 10, 12, 7, 6, 11, 5, 3, 11);
    x.change(0, 4, 2);
    byKind(x, "grows, down", 10, 12, 7, 6, 11, 5, 3, 11);
    x.change(0, 5, 12);
    byKind(x, "grows, 12 words", 10, 12, 0, 6, 18, 9, 3, 4);
  }

  private static void fills() {
    WordHedge x = Due.told("slip");
    byKind(x, "fills, upright", 11, 1, 2, 1, 1, 1, 0, 2);
    x.change(0, 4, 1);
    byKind(x, "fills, up", 11, 3, 4, 3, 3, 3, 0, 4);
    x.change(0, 4, 2);
    byKind(x, "fills, down", 11, 3, 4, 3, 3, 3, 0, 4);
  }

  private static void of() {
    WordHedge x = Due.told("slip;may in 4 words 2 high 100 down");
    x.change(1, 6, 7);
    int[] due = {6, 4, 100, 5, 2, 2, 7, 3, 2 + 4 + 8 + 16, 20, 14, 4};
    for (int what = 0; what < due.length; what++) {
      Due.is("of 1, " + what, x.of(1, what), due[what]);
    }
    Due.is("of 1, -1", x.of(1, -1), Due.BEYOND);
    Due.is("of 1, 12", x.of(1, 12), Due.BEYOND);
    Due.is("of -1", x.of(-1, 0), Due.BEYOND);
    Due.is("of 2", x.of(2, 0), Due.BEYOND);
    Due.is("of 8", x.of(8, 0), Due.BEYOND);
  }

  private static void change() {
    WordHedge x = Due.told("slip;slip");
    int[] first = {0, 0, 20, 5, 0, 4, 0};
    int[] least = {0, 0, 0, 0, 0, 1, 0};
    int[] most = {6, 15, 199, 99, 2, 12, 9999};
    for (int what = 0; what < most.length; what++) {
      Due.is("change " + what + " to the most", x.change(1, what, most[what]), first[what]);
      Due.is("change " + what + " above it", x.change(1, what, most[what] + 1), Due.BEYOND);
      Due.is("changed " + what, x.of(1, what), most[what]);
      Due.is("change " + what + " to the least", x.change(1, what, least[what]), most[what]);
      Due.is("change " + what + " below it", x.change(1, what, least[what] - 1), Due.BEYOND);
      Due.is("changed " + what + " then", x.of(1, what), least[what]);
      Due.is("the other's " + what, x.of(0, what), first[what]);
    }
    Due.is("change -1", x.change(1, -1, 0), Due.BEYOND);
    Due.is("change 7", x.change(1, 7, 0), Due.BEYOND);
    Due.is("change of -1", x.change(-1, 0, 0), Due.BEYOND);
    Due.is("change of 2", x.change(2, 0, 0), Due.BEYOND);
  }

  private static void cut() {
    WordHedge x = Due.told("slip;slip high 199");
    Due.is("cut to 199", x.cut(1, 199), 0);
    Due.is("cut to 30", x.cut(1, 30), 169);
    Due.is("cut to 31", x.cut(1, 31), 0);
    Due.is("is 30", x.of(1, 2), 30);
    Due.is("cut to 0", x.cut(1, 0), 30);
    Due.is("is 0", x.of(1, 2), 0);
    Due.is("the other", x.of(0, 2), 20);
    Due.is("cut to 200", x.cut(1, 200), Due.BEYOND);
    Due.is("cut to -1", x.cut(1, -1), Due.BEYOND);
    Due.is("cut -1", x.cut(-1, 0), Due.BEYOND);
    Due.is("cut 2", x.cut(2, 0), Due.BEYOND);
  }
}
