/** Acts at the edges of what they take: beyond these they answer a finding and change nothing but status(). */
final class Edge {
  interface Act {
    long on(WordHedge x);
  }

  interface With {
    long on(WordHedge x, int v);
  }

  interface Made {
    WordHedge hedge();
  }

  private Edge() {}

  /** A hedge that has some of everything: slips 0 to 2, sheets 0 to 2, two spots, an image, three bytes of tape. */
  static WordHedge full() {
    WordHedge x = Due.told("slip in 3 high 80 up;may in 5 words 2 high 60 down;elegy in 9 high 30;"
        + "hurdles 6;lean 2 3 4");
    x.lean(4, 9, 99);
    x.go(3);
    x.change(1, 6, 7);
    x.hold(2, 1);
    x.hold(9, 0);
    x.seed(77);
    x.image();
    x.go(2);
    x.hold(0, 2);
    Due.fillBits(x, 0, 32, 307, 1599, 5, 40, 77);
    Due.fillBits(x, 1, 16, 7, 300, 1100);
    Due.fillBits(x, 2, 8, 9, 100);
    Due.feed(x, "may");
    return x;
  }

  static WordHedge withEightSlips() {
    WordHedge x = new WordHedge();
    for (int i = 0; i < 8; i++) {
      x.slip(i % 7, 2 * i, 1 + i);
    }
    x.image();
    return x;
  }

  static void refused(String call, int finding, Act act) {
    refused(call, finding, Edge::full, act);
  }

  /** Its twin, on which the act is not tried, shows all that must be seen behind it. */
  static void refused(String call, int finding, Made made, Act act) {
    WordHedge x = made.hedge();
    WordHedge twin = made.hedge();
    Due.is(call, act.on(x), finding);
    for (int which = -1; which <= 6; which++) {
      int more = which == -1 || which == Due.BEYOND - finding ? 1 : 0;
      Due.is("status " + which + " behind " + call, x.status(which), twin.status(which) + more);
    }
    sameToSee(call, x, twin);
  }

  /** An answer that is no finding, of a call that only asks. */
  static void changesNothing(String call, Act act) {
    WordHedge x = full();
    WordHedge twin = full();
    act.on(x);
    Due.is("findings behind " + call, x.status(-1), twin.status(-1));
    sameToSee(call, x, twin);
  }

  /** The argument may be the least to the most; a little and far beyond these it is refused. */
  static void range(String name, int least, int most, With act) {
    range(name, least, most, Edge::full, act);
  }

  static void range(String name, int least, int most, Made made, With act) {
    for (int v : new int[] {least, most}) {
      WordHedge x = made.hedge();
      int before = x.status(0);
      long answer = act.on(x, v);
      Due.is(name + " of " + v + " is taken, but BEYOND", answer == Due.BEYOND ? 1 : 0, 0);
      Due.is("BEYOND behind " + name + " of " + v, x.status(0), before);
    }
    for (int v : new int[] {least - 1, most + 1, Integer.MIN_VALUE, Integer.MAX_VALUE}) {
      refused(name + " of " + v, Due.BEYOND, made, x -> act.on(x, v));
    }
  }

  private static void sameToSee(String call, WordHedge x, WordHedge twin) {
    String seen = seen(x);
    String due = seen(twin);
    if (!seen.equals(due)) Due.wrong(call + " changed something: seen is " + seen + ", due is " + due);
  }

  /** All that can be seen; the sheets show as leanings, the tape as a text, the image when it comes back. */
  private static String seen(WordHedge x) {
    StringBuilder seen = new StringBuilder();
    seeLane(x, seen);
    for (int s = 0; s < 4; s++) {
      see(seen, x.judge(s));
      see(seen, x.load(s));
      seeList(x, seen);
    }
    see(seen, x.text());
    seeLane(x, seen);
    see(seen, x.undo());
    seeLane(x, seen);
    return seen.toString();
  }

  private static void seeLane(WordHedge x, StringBuilder seen) {
    for (int what = 0; what <= 7; what++) {
      see(seen, x.now(what));
      see(seen, x.count(what));
    }
    seeList(x, seen);
    for (int slip = 0; slip < x.count(1); slip++) {
      for (int what = 0; what <= 6; what++) {
        see(seen, x.of(slip, what));
      }
    }
    for (int spot = 0; spot <= 9; spot++) {
      see(seen, x.as(spot, 0));
    }
  }

  private static void seeList(WordHedge x, StringBuilder seen) {
    for (int i = 0; i <= 5; i++) {
      see(seen, x.leaning(i));
    }
  }

  private static void see(StringBuilder seen, int answer) {
    seen.append(answer).append(' ');
  }
}
