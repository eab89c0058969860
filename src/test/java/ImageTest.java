/** Promises 39 to 43, sentence by sentence: images, counts and findings. */
public final class ImageTest {
  public static void main(String[] args) {
    Doc.promise(39);
    image();
    notInTheImage();
    Doc.promise(40);
    undo();
    undoNone();
    Doc.promise(41);
    tear();
    Doc.promise(42);
    count();
    countBeyond();
    Doc.promise(43);
    status();
    statusBeyond();
    Doc.end();
  }

  private static WordHedge lane() {
    WordHedge x = Due.told("slip in 3;may in 4 words 2 high 60 down;hurdles 6;lean 2 3 4");
    x.go(4);
    x.change(1, 6, 5);
    x.hold(2, 1);
    x.seed(77);
    return x;
  }

  private static void change(WordHedge x) {
    Due.read(x, "slip;slip;hurdles 9;lean 2 5 99");
    x.lean(4, 7, 9);
    x.change(1, 0, 2);
    x.change(1, 1, 9);
    x.change(1, 4, 0);
    x.change(1, 5, 9);
    x.change(1, 6, 0);
    x.hold(2, 3);
    x.hold(5, 2);
    x.change(2, 4, 1);
    x.change(2, 6, 9);
    x.leans(9);
  }

  private static void isAsKept(WordHedge x) {
    int[] now = {4, 65535 - 2 - 4 - 8 - 16, 0, 6, 0, 9 + 21, 5, 68 + 116};
    for (int what = 0; what < now.length; what++) {
      Due.is("now " + what, x.now(what), now[what]);
    }
    Due.traits(x, "the slip", 0, 0, 3, 68, 9, 0, 4, 0);
    Due.traits(x, "the may", 1, 6, 4, 116, 21, 2, 2, 5);
    Due.is("slips", x.count(1), 2);
    Due.is("z", x.count(6), 77);
    Due.is("held", x.count(7), 1);
    Due.is("spot 2", x.as(2, 0), 1);
    Due.is("leaning 2", x.leaning(2), 304);
    Due.is("leaning 4", x.leaning(4), 0);
  }

  private static void image() {
    Doc.says("All but THE TAPE and SHEETS is kept: 1.");
    WordHedge x = lane();
    Due.is("image", x.image(), 1);
    isAsKept(x);
    change(x);
    Due.is("undo", x.undo(), 4);
    isAsKept(x);
    Due.is("a new slip", x.slip(0, 1, 9), 2);
    Due.traits(x, "a new slip", 2, 0, 1, 20, 5, 0, 9, 0);
    WordHedge empty = new WordHedge();
    Due.is("of nothing", empty.image(), 1);
    change(empty);
    Due.is("undo of that", empty.undo(), 0);
    Due.is("no slips", empty.count(1), 0);
    Due.is("z at first", empty.count(6), 1);
    Due.is("nothing is held", empty.count(7), 0);
    WordHedge full = Edge.withEightSlips();
    Due.is("of eight slips", full.image(), 1);
    full.go(9);
    Due.is("undo of eight", full.undo(), 0);
    Due.traits(full, "the eighth", 7, 0, 14, 20, 5, 0, 8, 0);
    Due.is("a 9th", full.slip(0, 0, 1), Due.FULL);
  }

  private static void notInTheImage() {
    WordHedge x = lane();
    Due.fill(x, 0, 1);
    Due.feed(x, "may");
    x.image();
    Due.feed(x, ";ma");
    Due.fill(x, 1, 3, 4);
    x.write(0, 0, 9);
    x.sheet(2, 8, 1);
    Due.is("undo", x.undo(), 4);
    Due.is("the tape stays", x.count(5), 6);
    Due.is("sheet 1 stays", x.load(1), 2);
    Due.is("sheet 0 stays", x.load(0), 1);
    Due.is("its number", x.leaning(0), 9);
    Due.is("sheet 2 stays", x.load(2), 1);
    Due.feed(x, "y");
    Due.is("may;may", x.text(), 2);
  }

  private static void undo() {
    Doc.says("It becomes what was kept latest (which stays): YEAR.");
    WordHedge x = lane();
    x.image();
    change(x);
    Due.is("undo", x.undo(), 4);
    change(x);
    Due.is("it stays", x.undo(), 4);
    isAsKept(x);
    Due.is("at once again", x.undo(), 4);
    x.go(3);
    Due.is("the latest", x.image(), 1);
    x.go(1);
    Due.is("undo of that", x.undo(), 7);
    x.tear();
    Due.is("the one before is not kept", x.undo(), Due.NONE);
  }

  private static void undoNone() {
    Doc.says("NONE: nothing is kept.");
    Edge.refused("undo", Due.NONE, () -> torn(Edge.full()), x -> x.undo());
    Edge.refused("undo of nothing", Due.NONE, WordHedge::new, x -> x.undo());
  }

  private static WordHedge torn(WordHedge x) {
    x.tear();
    return x;
  }

  private static void tear() {
    Doc.says("Nothing is kept: 1 if something was, else 0.");
    WordHedge x = lane();
    Due.is("nothing", x.tear(), 0);
    Due.is("nothing to undo", x.undo(), Due.NONE);
    x.image();
    x.image();
    x.go(1);
    Due.is("something", x.tear(), 1);
    Due.is("nothing then", x.tear(), 0);
    Due.is("nothing to undo then", x.undo(), Due.NONE);
    Due.is("year as it was", x.now(0), 5);
    x.image();
    Due.is("kept again", x.undo(), 5);
    Due.is("something again", x.tear(), 1);
  }

  private static void count() {
    Doc.says("0 YEAR, 1 SLIPS, 2 how many GAPS there are, 3 GAPS MADE, 4 BROKE of all together, "
        + "5 bytes of THE TAPE, 6 z, 7 SPOTS that hold something.");
    WordHedge x = lane();
    x.lean(4, 9, 9);
    x.hold(7, 0);
    x.change(0, 6, 2);
    x.hurdles(1);
    x.go(1);
    Due.feed(x, "slip;");
    int[] due = {5, 2, 16 - 5, 1, 7, 5, 77, 2};
    int[] least = {0, 0, 16, 0, 0, 0, 1, 0};
    for (int what = 0; what < due.length; what++) {
      Due.is("count " + what, x.count(what), due[what]);
      Due.is("count " + what + " at first", new WordHedge().count(what), least[what]);
    }
    x.hurdles(65535);
    Due.is("no gaps", x.count(2), 0);
    Edge.changesNothing("count", y -> y.count(7));
  }

  private static void countBeyond() {
    Doc.says("BEYOND: another what.");
    Edge.range("what", 0, 7, (x, v) -> x.count(v));
  }

  private static void status() {
    Doc.says("How many acts answered a finding ever (undo() takes none back): "
        + "which -1: all, 0 to 6: BEYOND to SIZE.");
    WordHedge x = Due.told("may;may;may;may;may;may;may;may");
    for (int which = -1; which <= 6; which++) {
      Due.is("none of " + which, x.status(which), 0);
    }
    x.hold(0, 0);
    x.slip(0, 0, 1);
    x.as(0, 2);
    x.as(0, 3);
    x.undo();
    x.closed(9);
    x.whole();
    for (int i = 0; i < 4; i++) {
      x.load(i);
    }
    for (int i = 0; i < 5; i++) {
      x.sheet(0, 8, -1);
    }
    int[] due = {0, 1, 2, 3, 0, 4, 5};
    for (int which = 0; which < due.length; which++) {
      Due.is("status " + which, x.status(which), due[which]);
    }
    Due.is("in all", x.status(-1), 15);
    x.image();
    x.odds(100, 0, 0);
    x.undo();
    Due.is("undo takes none back", x.status(-1), 16);
    Due.is("a long's", x.status(0), 1);
  }

  private static void statusBeyond() {
    Doc.says("BEYOND (counted from then on): another one.");
    WordHedge x = new WordHedge();
    Due.is("7", x.status(7), Due.BEYOND);
    Due.is("is counted", x.status(0), 1);
    Due.is("-2", x.status(-2), Due.BEYOND);
    Due.is("is counted too", x.status(0), 2);
    Due.is("in all", x.status(-1), 2);
    Edge.range("which", -1, 6, (y, v) -> y.status(v));
  }
}
