/** Promises 32 to 38: spots and sheets. */
public final class SheetTest {
  public static void main(String[] args) {
    hold();
    as();
    sheet();
    write();
    copy();
    copyWrong();
    load();
    judge();
    Due.end();
  }

  private static void hold() {
    WordHedge x = Due.told("slip;may");
    Due.is("spot 0", x.hold(0, 1), 1);
    Due.is("spot 9", x.hold(9, 1), 1);
    Due.is("two are held", x.count(7), 2);
    Due.is("spot 9 lets go", x.hold(9, -1), 1);
    Due.is("nothing, once more", x.hold(9, -1), 1);
    Due.is("one is held", x.count(7), 1);
    Due.is("spot -1", x.hold(-1, 0), Due.BEYOND);
    Due.is("spot 10", x.hold(10, 0), Due.BEYOND);
    Due.is("slip -2", x.hold(0, -2), Due.BEYOND);
    Due.is("slip 2", x.hold(0, 2), Due.BEYOND);
    Due.is("still slip 1", x.as(0, 0), 1);
    Due.is("another", x.hold(0, 0), 1);
    Due.is("is slip 0", x.as(0, 0), 0);
  }

  private static void as() {
    WordHedge x = Due.told("slip");
    x.hold(4, 0);
    int[] kindsAbove = {1, 3, 5, 13, 29, 33, 67};
    for (int kind = 0; kind < 7; kind++) {
      x.change(0, 0, kind);
      for (int wanted = 0; wanted < 7; wanted++) {
        boolean isOne = (kindsAbove[kind] >> wanted & 1) == 1;
        Due.is(kind + " as " + wanted, x.as(4, wanted), isOne ? 0 : Due.KIND);
      }
    }
    Due.is("as -1", x.as(4, -1), Due.BEYOND);
    Due.is("as 7", x.as(4, 7), Due.BEYOND);
    Due.is("spot -1", x.as(-1, 0), Due.BEYOND);
    Due.is("spot 10", x.as(10, 0), Due.BEYOND);
    Due.is("spot 5", x.as(5, 0), Due.MISSING);
    Due.is("spot 5 as 7", x.as(5, 7), Due.BEYOND);
    Due.read(x, "may;may");
    x.hold(5, 2);
    Due.is("the number", x.as(5, 1), 2);
  }

  private static void sheet() {
    WordHedge x = new WordHedge();
    int[] bits = {8, 16, 32};
    for (int b : bits) {
      Due.is("sheet of " + b, x.sheet(3, b, 40), 40);
      Due.is("number 39", x.write(3, 39, 1), 1);
      Due.is("number 40", x.write(3, 40, 1), Due.BEYOND);
    }
    Due.is("of none", x.sheet(3, 8, 0), 0);
    Due.is("it is there", x.judge(3), 0);
    Due.is("of bits 0", x.sheet(3, 0, 7), 0);
    Due.is("it is missing", x.judge(3), Due.MISSING);
    Due.is("sheet -1", x.sheet(-1, 8, 1), Due.BEYOND);
    Due.is("sheet 4", x.sheet(4, 8, 1), Due.BEYOND);
    Due.is("sheet 4 ahead of size", x.sheet(4, 8, -1), Due.BEYOND);
    Due.is("bits 7 ahead of size", x.sheet(0, 7, -1), Due.BEYOND);
    Due.is("bits -8", x.sheet(0, -8, 1), Due.BEYOND);
    Due.is("bits 64", x.sheet(0, 64, 1), Due.BEYOND);
    Due.is("bits 24", x.sheet(0, 24, 1), Due.BEYOND);
    Due.is("size -1", x.sheet(0, 8, -1), Due.SIZE);
    Due.is("size -1 of bits 0", x.sheet(0, 0, -1), Due.SIZE);
    Due.is("size 41", x.sheet(0, 8, 41), Due.BEYOND);
    Due.is("size 41 of bits 0", x.sheet(0, 0, 41), Due.BEYOND);
    Due.is("size 40 of bits 0", x.sheet(0, 0, 40), 0);
  }

  private static void write() {
    WordHedge x = Due.told("slip");
    x.change(0, 3, 65);
    x.sheet(0, 8, 1);
    Due.is("all 0", x.judge(0), 1);
    Due.is("321 of 8 bits", x.write(0, 0, 321), 1);
    Due.is("is 65", x.judge(0), 0);
    x.sheet(0, 8, 1);
    Due.is("0 anew", x.judge(0), 1);
    x.sheet(1, 16, 1);
    x.write(1, 0, 321);
    Due.is("321 of 16 bits is not", x.judge(1), 1);
    x.write(1, 0, 65536 * 7 + 65);
    Due.is("16 bits of more", x.judge(1), 0);
    x.sheet(2, 32, 1);
    x.write(2, 0, 65536 * 7 + 65);
    Due.is("32 bits are all", x.judge(2), 1);
    x.sheet(0, 8, 1);
    x.write(0, 0, 255);
    Due.is("255 of 8 bits is -1", x.fits(0, 0), 65535);
    x.write(1, 0, 65535);
    Due.is("65535 of 16 bits is -1", x.fits(1, 0), 65535);
    x.write(1, 0, 255);
    Due.is("255 of 16 bits is not", x.fits(1, 0), 0);
    Due.is("sheet -1", x.write(-1, 0, 0), Due.BEYOND);
    Due.is("sheet 4", x.write(4, 0, 0), Due.BEYOND);
    Due.is("sheet 3", x.write(3, 9, 0), Due.MISSING);
    Due.is("number -1", x.write(0, -1, 0), Due.BEYOND);
    Due.is("number 1", x.write(0, 1, 0), Due.BEYOND);
  }

  /** The numbers of a sheet show as leanings. */
  private static void isSheet(WordHedge x, int s, int... due) {
    for (int i = 0; i < 6; i++) {
      x.lean(i, 0, 0);
    }
    Due.is("numbers of sheet " + s, x.load(s), due.length);
    for (int i = 0; i < due.length; i++) {
      Due.is("number " + i + " of sheet " + s, x.leaning(i), due[i]);
    }
  }

  private static void copy() {
    WordHedge x = new WordHedge();
    Due.fill(x, 0, 1, 2, 3, 4, 5);
    Due.fill(x, 1, 11, 12, 13, 14);
    Due.is("two", x.copy(0, 1, 1, 2, 2), 2);
    isSheet(x, 1, 11, 12, 2, 3);
    isSheet(x, 0, 1, 2, 3, 4, 5);
    Due.is("none", x.copy(0, 5, 1, 4, 0), 0);
    Due.is("all", x.copy(1, 0, 0, 1, 4), 4);
    isSheet(x, 0, 1, 11, 12, 2, 3);
    Due.is("upwards over itself", x.copy(0, 0, 0, 1, 4), 4);
    isSheet(x, 0, 1, 1, 11, 12, 2);
    Due.is("downwards over itself", x.copy(0, 1, 0, 0, 4), 4);
    isSheet(x, 0, 1, 11, 12, 2, 2);
  }

  private static void copyWrong() {
    WordHedge x = new WordHedge();
    Due.fill(x, 0, 1, 2, 3);
    Due.fill(x, 1, 1, 2);
    x.sheet(2, 16, 3);
    int max = Integer.MAX_VALUE;
    Due.is("from sheet -1", x.copy(-1, 0, 0, 0, 1), Due.BEYOND);
    Due.is("to sheet 4", x.copy(0, 0, 4, 0, 1), Due.BEYOND);
    Due.is("to sheet 4 ahead of missing", x.copy(3, 0, 4, 0, 1), Due.BEYOND);
    Due.is("from missing", x.copy(3, 0, 0, 0, 9), Due.MISSING);
    Due.is("to missing", x.copy(0, 0, 3, 0, 9), Due.MISSING);
    Due.is("of other bits", x.copy(0, 0, 2, 0, 9), Due.KIND);
    Due.is("too many of one", x.copy(1, 0, 0, 0, 3), Due.BEYOND);
    Due.is("too many of the other", x.copy(0, 0, 1, 0, 3), Due.BEYOND);
    Due.is("from too far", x.copy(0, 2, 1, 0, 2), Due.BEYOND);
    Due.is("to too far", x.copy(0, 0, 1, 1, 2), Due.BEYOND);
    Due.is("none from too far", x.copy(0, 4, 1, 0, 0), Due.BEYOND);
    Due.is("none to too far", x.copy(0, 0, 1, 3, 0), Due.BEYOND);
    Due.is("from -1", x.copy(0, -1, 1, 0, 1), Due.BEYOND);
    Due.is("to -1", x.copy(0, 0, 1, -1, 1), Due.BEYOND);
    Due.is("n -1", x.copy(0, 1, 1, 1, -1), Due.BEYOND);
    Due.is("very far", x.copy(0, max, 1, 0, max), Due.BEYOND);
    Due.is("very far the other way", x.copy(0, 0, 1, max, max), Due.BEYOND);
    Due.is("very much", x.copy(0, 0, 1, 0, max), Due.BEYOND);
    isSheet(x, 1, 1, 2);
  }

  private static void load() {
    WordHedge x = new WordHedge();
    Due.fill(x, 0, 1599, 0, 307, 1600, 5);
    Due.is("three, then none", x.load(0), 3);
    int[] due = {1599, 0, 307, 0, 0, 0};
    for (int i = 0; i < due.length; i++) {
      Due.is("leaning " + i, x.leaning(i), due[i]);
    }
    Due.fill(x, 0, 1, 2, 3, 4, 5, 6, 7);
    Due.is("six places", x.load(0), 6);
    Due.is("the last", x.leaning(5), 6);
    Due.fill(x, 0, 9, -1, 9);
    Due.is("-1 is none", x.load(0), 1);
    Due.is("the second stays", x.leaning(1), 2);
    x.sheet(0, 8, 0);
    Due.is("an empty one", x.load(0), 0);
    Due.is("sheet -1", x.load(-1), Due.BEYOND);
    Due.is("sheet 4", x.load(4), Due.BEYOND);
    Due.is("missing", x.load(1), Due.MISSING);
  }

  private static void judge() {
    WordHedge x = Due.told("slip;slip;slip");
    x.change(1, 3, 7);
    Due.fill(x, 0, 5, 7, 5);
    Due.is("so", x.judge(0), 0);
    Due.fill(x, 0, 5, 7);
    Due.is("so of the first two", x.judge(0), 0);
    Due.fill(x, 0, 5, 7, 5, 0);
    Due.is("there is no 4th", x.judge(0), 4);
    Due.fill(x, 0, 5, 6, 6);
    Due.is("the first that isn't so", x.judge(0), 2);
    Due.fill(x, 0, 5, 7, -1);
    Due.is("-1 is not any", x.judge(0), 3);
    Due.fill(x, 0);
    Due.is("none", x.judge(0), 0);
    Due.is("sheet -1", x.judge(-1), Due.BEYOND);
    Due.is("sheet 4", x.judge(4), Due.BEYOND);
    Due.is("missing", x.judge(1), Due.MISSING);
  }
}
