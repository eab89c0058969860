/** Promises 32 to 38, sentence by sentence: spots and sheets. */
public final class SheetTest {
  public static void main(String[] args) {
    Doc.promise(32);
    hold();
    holdBeyond();
    Doc.promise(33);
    as();
    asRefused();
    Doc.promise(34);
    sheet();
    sheetRefused();
    Doc.promise(35);
    write();
    writeRefused();
    Doc.promise(36);
    copy();
    copyRefused();
    copyBeyond();
    Doc.promise(37);
    load();
    loadEnds();
    loadRefused();
    Doc.promise(38);
    judge();
    judgeRefused();
    Doc.end();
  }

  private static void hold() {
    Doc.says("A SPOT holds a SLIP, or nothing (-1): 1.");
    WordHedge x = Due.told("slip;may");
    Due.is("spot 0", x.hold(0, 1), 1);
    Due.is("spot 9", x.hold(9, 1), 1);
    Due.is("two are held", x.count(7), 2);
    Due.is("spot 9 lets go", x.hold(9, -1), 1);
    Due.is("nothing, once more", x.hold(9, -1), 1);
    Due.is("one is held", x.count(7), 1);
    Due.is("another", x.hold(0, 0), 1);
    Due.is("is slip 0", x.as(0, 0), 0);
    WordHedge eight = Edge.withEightSlips();
    Due.is("the last slip", eight.hold(9, 7), 1);
    Due.is("is slip 7", eight.as(9, 0), 7);
    Due.is("nothing, without slips", new WordHedge().hold(0, -1), 1);
  }

  private static void holdBeyond() {
    Doc.says("BEYOND.");
    Edge.range("spot", 0, 9, (x, v) -> x.hold(v, 2));
    Edge.range("spot of nothing", 0, 9, (x, v) -> x.hold(v, -1));
    Edge.range("slip", -1, 2, (x, v) -> x.hold(2, v));
    Edge.range("slip of eight", -1, 7, Edge::withEightSlips, (x, v) -> x.hold(2, v));
    Edge.range("slip of none", -1, -1, WordHedge::new, (x, v) -> x.hold(2, v));
  }

  private static void as() {
    Doc.says("What a SPOT holds as one of a kind (0 to 6): the number of the SLIP.");
    WordHedge x = Due.told("may;may;elegy");
    x.hold(0, 2);
    x.hold(9, 1);
    for (int kind : new int[] {0, 2, 3, 4}) {
      Due.is("an elegy as " + kind, x.as(0, kind), 2);
    }
    for (int kind : new int[] {0, 1, 6}) {
      Due.is("a may as " + kind, x.as(9, kind), 1);
    }
    x.change(2, 0, 6);
    Due.is("it is a may now", x.as(0, 6), 2);
  }

  private static void asRefused() {
    Doc.says("BEYOND.");
    Edge.range("spot", 0, 9, (x, v) -> x.as(v, 0));
    Edge.range("kind", 0, 6, (x, v) -> x.as(2, v));
    Edge.range("kind of nothing", 0, 6, (x, v) -> x.as(5, v));
    Doc.says("MISSING: it holds nothing.");
    for (int kind = 0; kind <= 6; kind++) {
      int asked = kind;
      Edge.refused("nothing as " + kind, Due.MISSING, x -> x.as(5, asked));
    }
    WordHedge let = Edge.full();
    let.hold(2, -1);
    Due.is("what was let go", let.as(2, 0), Due.MISSING);
    Doc.says("KIND: it isn't of that kind, nor of one under it.");
    int[] kindsAbove = {1, 3, 5, 13, 29, 33, 67};
    for (int kind = 0; kind <= 6; kind++) {
      for (int wanted = 0; wanted <= 6; wanted++) {
        int is = kind;
        int asked = wanted;
        Edge.Made made = () -> {
          WordHedge x = Edge.full();
          x.change(1, 0, is);
          return x;
        };
        if ((kindsAbove[kind] >> wanted & 1) == 1) Due.is(kind + " as " + wanted, made.hedge().as(2, asked), 1);
        else Edge.refused(kind + " as " + wanted, Due.KIND, made, x -> x.as(2, asked));
      }
    }
  }

  private static void sheet() {
    Doc.says("A sheet has n numbers, all 0, of 8, 16 or 32 bits; bits 0: it is MISSING: n (0 if it is MISSING).");
    WordHedge x = Due.told("slip");
    for (int bits : new int[] {8, 16, 32}) {
      Due.is("40 of " + bits, x.sheet(3, bits, 40), 40);
      Due.is("number 39 of " + bits, x.write(3, 39, 1), 1);
      Due.is("number 40 of " + bits, x.write(3, 40, 1), Due.BEYOND);
      Due.is("1 of " + bits, x.sheet(3, bits, 1), 1);
      Due.is("number 1 of " + bits, x.write(3, 1, 1), Due.BEYOND);
      Due.is("none of " + bits, x.sheet(3, bits, 0), 0);
      Due.is("it is there, without numbers", x.load(3), 0);
      Due.is("number 0 of none of " + bits, x.write(3, 0, 1), Due.BEYOND);
    }
    Due.fill(x, 0, 1, 2, 3);
    Due.is("as long, anew", x.sheet(0, 32, 3), 3);
    isSheet(x, 0, 0, 0, 0);
    Due.is("7 of bits 0", x.sheet(0, 0, 7), 0);
    Due.is("it is missing", x.load(0), Due.MISSING);
    Due.is("40 of bits 0, missing as it is", x.sheet(0, 0, 40), 0);
    Due.is("none of bits 0", x.sheet(3, 0, 0), 0);
    Due.is("that is missing too", x.judge(3), Due.MISSING);
  }

  private static void sheetRefused() {
    Doc.says("BEYOND: no such sheet, other bits.");
    Edge.range("sheet", 0, 3, (x, v) -> x.sheet(v, 8, 1));
    Edge.range("sheet, size below 0", 0, 3, (x, v) -> x.sheet(v, 8, -1));
    int[] others = {-32, -8, -1, 1, 4, 7, 9, 15, 17, 24, 31, 33, 40, 64, Integer.MIN_VALUE, Integer.MAX_VALUE};
    for (int bits : others) {
      Edge.refused(bits + " bits", Due.BEYOND, x -> x.sheet(0, bits, 1));
      Edge.refused(bits + " bits, size below 0", Due.BEYOND, x -> x.sheet(0, bits, -1));
    }
    Doc.says("SIZE: n is below 0 (also with bits 0).");
    Doc.says("BEYOND: n is above 40 (also with bits 0).");
    for (int bits : new int[] {0, 8, 16, 32}) {
      Edge.refused("size -1 of " + bits + " bits", Due.SIZE, x -> x.sheet(1, bits, -1));
      Edge.refused("least size of " + bits + " bits", Due.SIZE, x -> x.sheet(1, bits, Integer.MIN_VALUE));
      Edge.refused("size 41 of " + bits + " bits", Due.BEYOND, x -> x.sheet(1, bits, 41));
      Edge.refused("greatest size of " + bits + " bits", Due.BEYOND, x -> x.sheet(1, bits, Integer.MAX_VALUE));
      Due.is("size 0 of " + bits + " bits", new WordHedge().sheet(1, bits, 0), 0);
      Due.is("size 40 of " + bits + " bits", new WordHedge().sheet(1, bits, 40), bits == 0 ? 0 : 40);
    }
  }

  private static void write() {
    Doc.says("Number i of a sheet becomes v (its lowest bits): 1.");
    int[][] bitsNumberAndDue = {{8, 65, 65}, {8, 256 + 65, 65}, {8, -256 + 65, 65}, {8, 127, 127}, {8, 65536, 0},
        {16, 256 + 65, 256 + 65}, {16, 65536 * 7 + 65, 65}, {16, -65536, 0}, {16, Integer.MIN_VALUE + 9, 9},
        {32, 1599, 1599}};
    for (int[] row : bitsNumberAndDue) {
      WordHedge x = new WordHedge();
      x.sheet(0, row[0], 2);
      Due.is("write " + row[1], x.write(0, 1, row[1]), 1);
      isSheet(x, 0, 0, row[2]);
    }
    int[][] below0 = {{8, 128}, {8, 255}, {8, -1}, {16, 32768}, {16, 65535}, {16, -1}, {32, -1},
        {32, Integer.MIN_VALUE}};
    for (int[] row : below0) {
      WordHedge x = new WordHedge();
      x.sheet(0, row[0], 2);
      Due.is("write " + row[1], x.write(0, 1, row[1]), 1);
      isSheet(x, 0, 0);
    }
    WordHedge x = Due.told("slip");
    x.change(0, 3, 65);
    x.sheet(2, 32, 1);
    x.write(2, 0, 65536 * 7 + 65);
    Due.is("32 bits are all", x.judge(2), 1);
    x.write(2, 0, 65);
    Due.is("written again", x.judge(2), 0);
  }

  private static void writeRefused() {
    Doc.says("BEYOND: no such sheet.");
    Edge.range("sheet", 0, 3, (x, v) -> x.write(v, 0, 5));
    Edge.refused("no such sheet, no such number", Due.BEYOND, x -> x.write(4, 40, 5));
    Doc.says("MISSING.");
    Edge.refused("a missing sheet", Due.MISSING, x -> x.write(3, 0, 5));
    Edge.refused("a missing sheet, no such number", Due.MISSING, x -> x.write(3, -1, 5));
    Doc.says("BEYOND: no such number.");
    Edge.range("number", 0, 4, (x, v) -> x.write(0, v, 5));
    Edge.range("number of 16 bits", 0, 2, (x, v) -> x.write(1, v, 5));
  }

  /** The numbers of a sheet show as leanings; one that is none ends them. */
  private static void isSheet(WordHedge x, int s, int... due) {
    for (int i = 0; i < 6; i++) {
      x.lean(i, 0, 0);
    }
    Due.is("numbers of sheet " + s, x.load(s), due.length);
    for (int i = 0; i < due.length; i++) {
      Due.is("number " + i + " of sheet " + s, x.leaning(i), due[i]);
    }
  }

  private static void copy() {
    Doc.says("n numbers of a sheet from one on come to another one from one on (as they all were): n.");
    WordHedge x = new WordHedge();
    Due.fill(x, 0, 1, 2, 3, 4, 5);
    Due.fill(x, 1, 11, 12, 13, 14);
    Due.is("two", x.copy(0, 1, 1, 2, 2), 2);
    isSheet(x, 1, 11, 12, 2, 3);
    isSheet(x, 0, 1, 2, 3, 4, 5);
    Due.is("none", x.copy(0, 5, 1, 4, 0), 0);
    Due.is("none of the begin", x.copy(0, 0, 1, 0, 0), 0);
    isSheet(x, 1, 11, 12, 2, 3);
    Due.is("all", x.copy(1, 0, 0, 1, 4), 4);
    isSheet(x, 0, 1, 11, 12, 2, 3);
    Due.is("upwards over itself", x.copy(0, 0, 0, 1, 4), 4);
    isSheet(x, 0, 1, 1, 11, 12, 2);
    Due.is("downwards over itself", x.copy(0, 1, 0, 0, 4), 4);
    isSheet(x, 0, 1, 11, 12, 2, 2);
    Due.is("to where it is", x.copy(0, 0, 0, 0, 5), 5);
    isSheet(x, 0, 1, 11, 12, 2, 2);
    Due.is("the last one", x.copy(0, 1, 1, 3, 1), 1);
    isSheet(x, 1, 11, 12, 2, 11);
    x.sheet(2, 8, 40);
    x.sheet(3, 8, 40);
    x.write(2, 39, 77);
    Due.is("forty", x.copy(2, 0, 3, 0, 40), 40);
    Due.is("the last of forty", x.copy(3, 39, 3, 0, 1), 1);
    isSheet(x, 3, 77, 0, 0, 0, 0, 0);
  }

  private static void copyRefused() {
    Doc.says("BEYOND: no such sheet (either).");
    Edge.range("from sheet", 0, 3, (x, v) -> x.copy(v, 0, 0, 0, 0));
    Edge.range("to sheet", 0, 3, (x, v) -> x.copy(0, 0, v, 0, 0));
    Edge.refused("to no such sheet, from a missing one", Due.BEYOND, x -> x.copy(3, 0, 4, 0, 0));
    Edge.refused("from no such sheet, to a missing one", Due.BEYOND, x -> x.copy(-1, 0, 3, 0, 0));
    Doc.says("MISSING: one is.");
    Edge.refused("from a missing one", Due.MISSING, x -> x.copy(3, 0, 0, 0, 1));
    Edge.refused("to a missing one", Due.MISSING, x -> x.copy(0, 0, 3, 0, 1));
    Edge.refused("both are", Due.MISSING, x -> x.copy(3, 0, 3, 0, 0));
    Edge.refused("too many of a missing one", Due.MISSING, x -> x.copy(3, -1, 1, 0, 99));
    Doc.says("KIND: they are not of as many bits.");
    for (int s = 0; s <= 2; s++) {
      for (int t = 0; t <= 2; t++) {
        int from = s;
        int to = t;
        if (s == t) continue;
        Edge.refused("copy " + s + " to " + t, Due.KIND, x -> x.copy(from, 0, to, 0, 1));
        Edge.refused("none of " + s + " to " + t, Due.KIND, x -> x.copy(from, 0, to, 0, 0));
        Edge.refused("too many of " + s + " to " + t, Due.KIND, x -> x.copy(from, -1, to, 99, 99));
      }
    }
  }

  /** Sheet 3 has two numbers, of as many bits as the five of sheet 0. */
  private static WordHedge withTwoOfABits() {
    WordHedge x = Edge.full();
    Due.fill(x, 3, 8, 9);
    return x;
  }

  private static void copyBeyond() {
    Doc.says("BEYOND: one has not so many, or from, to or n is below 0.");
    Edge.Made made = SheetTest::withTwoOfABits;
    int max = Integer.MAX_VALUE;
    Edge.range("how many, of which the other has 2", 0, 2, made, (x, v) -> x.copy(0, 0, 3, 0, v));
    Edge.range("how many, of which this has 2", 0, 2, made, (x, v) -> x.copy(3, 0, 0, 0, v));
    Edge.range("from, two of five", 0, 3, made, (x, v) -> x.copy(0, v, 3, 0, 2));
    Edge.range("to, two of five", 0, 3, made, (x, v) -> x.copy(3, 0, 0, v, 2));
    Edge.range("from, none of five", 0, 5, made, (x, v) -> x.copy(0, v, 3, 0, 0));
    Edge.range("to, none of five", 0, 5, made, (x, v) -> x.copy(3, 0, 0, v, 0));
    Edge.refused("very far and many", Due.BEYOND, made, x -> x.copy(0, max, 3, 0, max));
    Edge.refused("to very far and many", Due.BEYOND, made, x -> x.copy(0, 0, 3, max, max));
    Edge.refused("from the end and most", Due.BEYOND, made, x -> x.copy(0, 4, 3, 0, max));
    Edge.refused("from -1, one less", Due.BEYOND, made, x -> x.copy(0, -1, 3, 0, 1));
    Edge.refused("to -1, one less", Due.BEYOND, made, x -> x.copy(0, 0, 3, -1, 1));
    Edge.refused("n -1", Due.BEYOND, made, x -> x.copy(0, 1, 3, 1, -1));
    Edge.refused("all below 0", Due.BEYOND, made, x -> x.copy(0, -1, 3, -1, -1));
  }

  private static void load() {
    Doc.says("Numbers of a sheet, from its begin on, become LEANINGS of THE LIST (100 * PLACE and WEIGHT), "
        + "places 0, 1, ..: how many came.");
    WordHedge x = new WordHedge();
    Due.fill(x, 0, 1599, 0, 307);
    x.lean(3, 4, 5);
    Due.is("three", x.load(0), 3);
    int[] due = {1599, 0, 307, 405, 0, 0};
    for (int i = 0; i < due.length; i++) {
      Due.is("leaning " + i, x.leaning(i), due[i]);
    }
    x.sheet(0, 8, 0);
    Due.is("an empty one", x.load(0), 0);
    Due.is("leaning 0 stays", x.leaning(0), 1599);
    Due.fillBits(x, 1, 16, 1599);
    Due.is("of 16 bits", x.load(1), 1);
    Due.fillBits(x, 2, 8, 127);
    Due.is("of 8 bits", x.load(2), 1);
    Due.is("place 1, weight 27", x.leaning(0), 127);
  }

  private static void loadEnds() {
    Doc.says("It ends at the first that is none, or for which there is no place.");
    int[] none = {1600, -1, Integer.MIN_VALUE, Integer.MAX_VALUE, 9999, -100};
    for (int number : none) {
      WordHedge x = Due.told("lean 2 2 2;lean 3 3 3");
      Due.fill(x, 0, 1599, 0, number, 5);
      Due.is("two ahead of " + number, x.load(0), 2);
      int[] due = {1599, 0, 202, 303, 0, 0};
      for (int i = 0; i < due.length; i++) {
        Due.is("leaning " + i, x.leaning(i), due[i]);
      }
      x.write(0, 0, number);
      Due.is("none ahead of " + number, x.load(0), 0);
    }
    WordHedge x = new WordHedge();
    Due.fill(x, 0, 1, 2, 3, 4, 5, 6, 7);
    Due.is("six of seven", x.load(0), 6);
    for (int i = 0; i < 6; i++) {
      Due.is("leaning " + i + " of six", x.leaning(i), i + 1);
    }
    Due.fill(x, 0, 1, 2, 3, 4, 5, 6);
    Due.is("six of six", x.load(0), 6);
    Due.fill(x, 0, 1, 2, 3, 4, 5, 1600);
    Due.is("five of six", x.load(0), 5);
    x.sheet(0, 8, 40);
    Due.is("six of forty", x.load(0), 6);
  }

  private static void loadRefused() {
    Doc.says("BEYOND: no such sheet.");
    Edge.range("sheet", 0, 3, (x, v) -> x.load(v));
    Doc.says("MISSING.");
    Edge.refused("a missing sheet", Due.MISSING, x -> x.load(3));
  }

  private static void judge() {
    Doc.says("THE READER: numbers of a sheet are THICK of SLIPS 0, 1, ..: "
        + "0 if so; else 1 and the place of the first that isn't so.");
    WordHedge x = Due.told("slip;slip;slip");
    x.change(1, 3, 99);
    x.change(2, 3, 0);
    Due.fill(x, 0, 5, 99, 0);
    Due.is("so", x.judge(0), 0);
    Due.fill(x, 0, 5, 99);
    Due.is("so of the first two", x.judge(0), 0);
    Due.fill(x, 0, 5, 99, 0, 0);
    Due.is("there is no 4th", x.judge(0), 4);
    Due.fill(x, 0, 4, 99, 0);
    Due.is("not the first", x.judge(0), 1);
    Due.fill(x, 0, 5, 98, 1);
    Due.is("not the second, nor the third", x.judge(0), 2);
    Due.fill(x, 0, 5, 99, -1);
    Due.is("-1 is not any", x.judge(0), 3);
    Due.fill(x, 0);
    Due.is("no number", x.judge(0), 0);
    WordHedge none = new WordHedge();
    none.sheet(0, 8, 1);
    Due.is("no slip", none.judge(0), 1);
    none.sheet(0, 8, 0);
    Due.is("no slip, no number", none.judge(0), 0);
    WordHedge eight = Edge.withEightSlips();
    Due.fill(eight, 0, 5, 5, 5, 5, 5, 5, 5, 5);
    Due.is("so of eight", eight.judge(0), 0);
    Due.fill(eight, 0, 5, 5, 5, 5, 5, 5, 5, 5, 5);
    Due.is("there is no 9th", eight.judge(0), 9);
    Edge.changesNothing("judge", y -> y.judge(0));
  }

  private static void judgeRefused() {
    Doc.says("BEYOND: no such sheet.");
    Edge.range("sheet", 0, 3, (x, v) -> x.judge(v));
    Doc.says("MISSING.");
    Edge.refused("a missing sheet", Due.MISSING, x -> x.judge(3));
  }
}
