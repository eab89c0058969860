/** Promises 39 to 43: images, counts and findings. */
public final class ImageTest {
  public static void main(String[] args) {
    image();
    notInTheImage();
    tear();
    count();
    status();
    everyFinding();
    findingsChangeNothing();
    Due.end();
  }

  private static WordHedge kept() {
    WordHedge x = Due.told("slip in 3;may in 4 words 2 high 60 down;hurdles 6;lean 2 3 4");
    x.go(4);
    x.change(1, 6, 5);
    x.hold(2, 1);
    x.seed(77);
    return x;
  }

  private static void change(WordHedge x) {
    Due.read(x, "slip;slip;hurdles 9;lean 2 5 99");
    x.lean(4, 7, 9);
    x.change(1, 0, 2);
    x.change(1, 1, 9);
    x.change(1, 4, 0);
    x.change(1, 5, 9);
    x.change(1, 6, 0);
    x.hold(2, 3);
    x.hold(5, 2);
    x.change(2, 4, 1);
    x.change(2, 6, 9);
    x.leans(9);
  }

  private static void isAsKept(WordHedge x) {
    int[] now = {4, x.now(1), 0, 6, x.now(4), 9 + 21, 5, 68 + 116};
    for (int what = 0; what < now.length; what++) {
      Due.is("now " + what, x.now(what), now[what]);
    }
    int[] may = {6, 4, 116, 21, 2, 2, 5};
    for (int what = 0; what < may.length; what++) {
      Due.is("trait " + what, x.of(1, what), may[what]);
    }
    Due.is("slips", x.count(1), 2);
    Due.is("z", x.count(6), 77);
    Due.is("held", x.count(7), 1);
    Due.is("spot 2", x.as(2, 0), 1);
    Due.is("leaning 2", x.leaning(2), 304);
    Due.is("leaning 4", x.leaning(4), 0);
  }

  private static void image() {
    WordHedge x = kept();
    Due.is("image", x.image(), 1);
    change(x);
    Due.is("undo", x.undo(), 4);
    isAsKept(x);
    change(x);
    Due.is("it stays", x.undo(), 4);
    isAsKept(x);
    Due.is("a new slip", x.slip(0, 1, 9), 2);
    int[] fresh = {0, 1, 20, 5, 0, 9, 0};
    for (int what = 0; what < fresh.length; what++) {
      Due.is("trait " + what + " of a new slip", x.of(2, what), fresh[what]);
    }
    x.undo();
    x.go(3);
    Due.is("the latest", x.image(), 1);
    x.go(1);
    Due.is("undo of that", x.undo(), 7);
  }

  private static void notInTheImage() {
    WordHedge x = kept();
    Due.fill(x, 0, 1);
    Due.feed(x, "may");
    x.image();
    x.hurdles(-1);
    Due.feed(x, ";ma");
    Due.fill(x, 1, 3, 4);
    x.write(0, 0, 1);
    x.lean(0, 0, 0);
    Due.is("undo", x.undo(), 4);
    Due.is("findings stay", x.status(-1), 1);
    Due.is("the tape stays", x.count(5), 6);
    Due.is("sheet 1 stays", x.load(1), 2);
    Due.is("sheet 0 stays", x.load(0), 1);
  }

  private static void tear() {
    WordHedge x = kept();
    Due.is("nothing", x.tear(), 0);
    Due.is("nothing to undo", x.undo(), Due.NONE);
    x.image();
    x.go(1);
    Due.is("something", x.tear(), 1);
    Due.is("nothing then", x.tear(), 0);
    Due.is("nothing to undo then", x.undo(), Due.NONE);
    Due.is("year as it was", x.now(0), 5);
    x.image();
    Due.is("kept again", x.undo(), 5);
  }

  private static void count() {
    WordHedge x = kept();
    x.lean(4, 9, 9);
    x.hold(7, 0);
    x.change(0, 6, 2);
    x.hurdles(1);
    x.go(1);
    Due.feed(x, "slip;");
    int[] due = {5, 2, 16 - 5, 1, 7, 5, 77, 2};
    for (int what = 0; what < due.length; what++) {
      Due.is("count " + what, x.count(what), due[what]);
    }
    Due.is("count -1", x.count(-1), Due.BEYOND);
    Due.is("count 8", x.count(8), Due.BEYOND);
  }

  private static void status() {
    WordHedge x = new WordHedge();
    for (int which = -1; which <= 6; which++) {
      Due.is("none of " + which, x.status(which), 0);
    }
    Due.is("another one", x.status(7), Due.BEYOND);
    Due.is("is counted", x.status(0), 1);
    Due.is("another one yet", x.status(-2), Due.BEYOND);
    Due.is("is counted too", x.status(0), 2);
    Due.is("in all", x.status(-1), 2);
    x.odds(100, 0, 0);
    Due.is("longs are counted", x.status(0), 3);
  }

  private static void everyFinding() {
    WordHedge x = Due.told("may;may;may;may;may;may;may;may");
    x.slip(0, 0, 1);
    x.hold(0, 0);
    x.as(0, 2);
    x.as(0, 3);
    x.undo();
    x.closed(9);
    x.whole();
    for (int i = 0; i < 4; i++) {
      x.load(i);
    }
    for (int i = 0; i < 5; i++) {
      x.sheet(0, 8, -1);
    }
    int[] due = {0, 1, 2, 3, 0, 4, 5};
    for (int which = 0; which < due.length; which++) {
      Due.is("status " + which, x.status(which), due[which]);
    }
    Due.is("in all", x.status(-1), 15);
  }

  private static void findingsChangeNothing() {
    WordHedge x = kept();
    x.hurdles(65536);
    x.lean(6, 1, 1);
    x.slip(0, 0, 13);
    x.change(1, 6, 10000);
    x.cut(1, -1);
    x.go(61);
    x.hold(2, 2);
    x.leans(0);
    isAsKept(x);
    Due.is("findings", x.status(0), 8);
  }
}
