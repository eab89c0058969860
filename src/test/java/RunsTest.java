/** Promises 1 to 43: runs of calls on a WordHedge and on a PlainHedge answer the same. */
public final class RunsTest {
  private static final int RUNS = 1500;
  private static final int CALLS = 120;
  private static final int[] FAR = {-1, -2, 16, 100, 200, 65536, Integer.MIN_VALUE, Integer.MAX_VALUE, -1000001};
  private static final String[] TOKENS = {"slip", "hawthorn", "promise", "latin", "elegy", "slipper", "may", "in",
      "words", "high", "up", "down", "hurdles", "lean", ";", "!", "0", "1", "2", "3", "12", "13", "16", "40", "99"};
  private static long state = 20260101;
  private static final int[] asked = new int[43];
  private static final int[] foundNone = new int[43];

  private static int below(int n) {
    state = state * 6364136223846793005L + 1442695040888963407L;
    return (int) ((state >>> 33) % n);
  }

  /** Most arguments are as they may be; some lie at the ends or beyond. */
  private static int arg(int least, int most) {
    int luck = below(40);
    if (luck == 0) return FAR[below(FAR.length)];
    if (luck == 1) return most + 1;
    if (luck == 2) return least - 1;
    if (luck == 3) return most;
    return least + below(most - least + 1);
  }

  private static int slip() { return arg(0, 7); }

  private static int number() {
    int luck = below(4);
    return luck == 0 ? -1 : luck == 1 ? arg(-300, 300) : luck == 2 ? arg(0, 1600) : arg(0, 60);
  }

  private static String item() {
    StringBuilder s = new StringBuilder(TOKENS[below(7)]);
    if (below(2) == 0) s.append(" in ").append(below(16));
    if (below(3) == 0) s.append(" words ").append(1 + below(12));
    if (below(2) == 0) s.append(" high ").append(below(200));
    if (below(2) == 0) s.append(below(2) == 0 ? " up" : " down");
    if (below(5) == 0) return "hurdles " + below(65536);
    if (below(5) == 0) return "lean " + below(6) + " " + below(16) + " " + below(100);
    return s.toString();
  }

  private static String text() {
    StringBuilder s = new StringBuilder(item());
    while (below(3) != 0) s.append(';').append(item());
    if (below(3) == 0) {
      int at = below(s.length() + 1);
      s.insert(at, " " + TOKENS[below(TOKENS.length)] + (below(2) == 0 ? " " : ""));
    }
    if (below(12) == 0) s.setCharAt(below(s.length()), (char) below(256));
    return s.toString();
  }

  private interface Call {
    long of();
  }

  private static long plain(PlainHedge y, Call call) {
    try {
      return call.of();
    } catch (PlainHedge.Finding finding) {
      y.findings[Due.BEYOND - finding.number]++;
      return finding.number;
    }
  }

  private static void same(PlainHedge y, int run, int which, String name, long got, Call call) {
    asked[which]++;
    long want = plain(y, call);
    if (want < -1000000) foundNone[which]++;
    Due.is("run " + run + ": " + name, got, want);
  }

  public static void main(String[] args) {
    for (int run = 0; run < RUNS; run++) {
      WordHedge x = new WordHedge();
      PlainHedge y = new PlainHedge();
      start(x, y, run);
      for (int i = 0; i < CALLS; i++) {
        int which = below(60);
        if (which < 22) lane(x, y, run, which);
        else if (which < 43) rest(x, y, run, which);
        else act(x, y, run);
      }
      whole(x, y, run);
    }
    for (int which = 1; which < asked.length; which++) {
      if (asked[which] - foundNone[which] < 100) {
        Due.is("calls of promise " + (which + 1) + " that found something", asked[which] - foundNone[which], 100);
      }
    }
    Due.end();
  }

  private static void start(WordHedge x, PlainHedge y, int run) {
    for (int i = below(9); i > 0; i--) {
      int kind = below(7), place = below(16), words = 1 + below(12), high = below(200), thick = below(60), laid = below(3);
      same(y, run, 5, "slip", x.slip(kind, place, words), () -> y.slip(kind, place, words));
      int slip = (int) plain(y, () -> y.count(1) - 1);
      same(y, run, 7, "high", x.change(slip, 2, high), () -> y.change(slip, 2, high));
      same(y, run, 7, "thick", x.change(slip, 3, thick), () -> y.change(slip, 3, thick));
      same(y, run, 7, "laid", x.change(slip, 4, laid), () -> y.change(slip, 4, laid));
    }
    for (int i = 0; i < 6; i++) {
      int at = i, place = below(16), weight = below(3) == 0 ? below(100) : below(30);
      same(y, run, 3, "lean", x.lean(at, place, weight), () -> y.lean(at, place, weight));
    }
    int set = below(2) == 0 ? below(65536) : 65535 - (1 << below(16)) - (1 << below(15));
    same(y, run, 1, "hurdles", x.hurdles(set), () -> y.hurdles(set));
  }

  private static void lane(WordHedge x, PlainHedge y, int run, int which) {
    int a, b, c;
    switch (which) {
      case 1: a = arg(0, 65535); same(y, run, 1, "hurdles " + a, x.hurdles(a), () -> y.hurdles(a)); break;
      case 2: a = arg(0, 15); b = arg(0, 3);
        same(y, run, 2, "place " + a + ", " + b, x.place(a, b), () -> y.place(a, b)); break;
      case 3: a = arg(0, 5); b = arg(0, 15); c = arg(0, 99);
        same(y, run, 3, "lean " + a, x.lean(a, b, c), () -> y.lean(a, b, c)); break;
      case 4: a = arg(0, 5); same(y, run, 4, "leaning " + a, x.leaning(a), () -> y.leaning(a)); break;
      case 5: a = arg(0, 6); b = arg(0, 15); c = arg(1, 12);
        same(y, run, 5, "slip " + a, x.slip(a, b, c), () -> y.slip(a, b, c)); break;
      case 6: a = slip(); b = arg(0, 11); same(y, run, 6, "of " + a + ", " + b, x.of(a, b), () -> y.of(a, b)); break;
      case 7: a = slip(); b = arg(0, 6); c = arg(0, below(3) == 0 ? 200 : 12);
        same(y, run, 7, "change " + a + ", " + b + ", " + c, x.change(a, b, c), () -> y.change(a, b, c)); break;
      case 8: a = slip(); b = arg(0, 199); same(y, run, 8, "cut " + a, x.cut(a, b), () -> y.cut(a, b)); break;
      case 9: a = arg(1, below(5) == 0 ? 60 : 5); same(y, run, 9, "go " + a, x.go(a), () -> y.go(a)); break;
      case 10: a = arg(0, 7); same(y, run, 10, "now " + a, x.now(a), () -> y.now(a)); break;
      case 11: a = slip(); b = new int[] {2, 3, 6, 7, 9, arg(2, 9)}[below(6)]; c = arg(0, 100);
        same(y, run, 11, "ahead " + a + ", " + b + ", " + c, x.ahead(a, b, c), () -> y.ahead(a, b, c)); break;
      case 12: a = arg(0, 15); b = arg(0, 100);
        same(y, run, 12, "strong " + a + ", " + b, x.strong(a, b), () -> y.strong(a, b)); break;
      case 13: a = arg(0, 15); same(y, run, 13, "closed " + a, x.closed(a), () -> y.closed(a)); break;
      case 14: same(y, run, 14, "whole", x.whole(), () -> y.whole()); break;
      case 15: a = slip(); same(y, run, 15, "breaks " + a, x.breaks(a), () -> y.breaks(a)); break;
      case 16: a = slip(); b = arg(0, 60); same(y, run, 16, "lay " + a + ", " + b, x.lay(a, b), () -> y.lay(a, b)); break;
      case 17: a = slip(); b = arg(0, 60);
        same(y, run, 17, "plant " + a + ", " + b, x.plant(a, b), () -> y.plant(a, b)); break;
      case 18: a = slip(); b = arg(0, below(2) == 0 ? 60 : 8);
        same(y, run, 18, "kindFor " + a + ", " + b, x.kindFor(a, b), () -> y.kindFor(a, b)); break;
      case 19: a = arg(0, 5); b = arg(0, below(2) == 0 ? 60 : 5);
        same(y, run, 19, "weightFor " + a + ", " + b, x.weightFor(a, b), () -> y.weightFor(a, b)); break;
      case 20:
        if (below(4) > 0) break;
        a = arg(0, 40); same(y, run, 20, "layAll " + a, x.layAll(a), () -> y.layAll(a)); break;
      case 21: a = arg(0, 60); same(y, run, 21, "hurdlesFor " + a, x.hurdlesFor(a), () -> y.hurdlesFor(a)); break;
      default: break;
    }
  }

  private static void rest(WordHedge x, PlainHedge y, int run, int which) {
    int a, b, c;
    switch (which) {
      case 22: told(x, y, run); a = arg(0, 3); b = slip();
        same(y, run, 22, "words " + a + ", " + b, x.words(a, b), () -> y.words(a, b)); break;
      case 23: told(x, y, run); a = arg(0, 3); b = slip();
        same(y, run, 23, "kinds " + a + ", " + b, x.kinds(a, b), () -> y.kinds(a, b)); break;
      case 24: standing(x, y, run); a = arg(0, 3); b = slip();
        same(y, run, 24, "fits " + a + ", " + b, x.fits(a, b), () -> y.fits(a, b)); break;
      case 25: a = arg(1, below(4) == 0 ? 20 : 3); same(y, run, 25, "leans " + a, x.leans(a), () -> y.leans(a)); break;
      case 26: a = arg(0, 99); b = arg(0, 15); c = arg(0, 1);
        same(y, run, 26, "odds " + a + ", " + b + ", " + c, x.odds(a, b, c), () -> y.odds(a, b, c)); break;
      case 27: a = below(2) == 0 ? arg(0, 65535) : below(1 << 30) * 5;
        same(y, run, 27, "seed " + a, x.seed(a), () -> y.seed(a)); break;
      case 28: a = below(1 << 30) * 7; b = arg(1, 4);
        same(y, run, 28, "feed " + a + ", " + b, x.feed(a, b), () -> y.feed(a, b)); break;
      case 29: same(y, run, 29, "wipe", x.wipe(), () -> y.wipe()); break;
      case 30: texts(x, y, run); break;
      case 31: a = arg(0, below(2) == 0 ? 2 : 9); b = arg(-1, 7);
        same(y, run, 31, "hold " + a + ", " + b, x.hold(a, b), () -> y.hold(a, b)); break;
      case 32: a = arg(0, below(5) > 0 ? 2 : 9); b = arg(0, 6);
        same(y, run, 32, "as " + a + ", " + b, x.as(a, b), () -> y.as(a, b)); break;
      case 33: a = arg(0, 3); b = 8 * arg(0, 4); c = arg(0, 40);
        same(y, run, 33, "sheet " + a + ", " + b + ", " + c, x.sheet(a, b, c), () -> y.sheet(a, b, c)); break;
      case 34: a = arg(0, 3); b = arg(0, 9); c = number();
        same(y, run, 34, "write " + a + ", " + b + ", " + c, x.write(a, b, c), () -> y.write(a, b, c)); break;
      case 35: copy(x, y, run); break;
      case 36: a = arg(0, 3); same(y, run, 36, "load " + a, x.load(a), () -> y.load(a)); break;
      case 37: judged(x, y, run); a = arg(0, 3); same(y, run, 37, "judge " + a, x.judge(a), () -> y.judge(a)); break;
      case 38: same(y, run, 38, "image", x.image(), () -> y.image()); break;
      case 39: same(y, run, 39, "undo", x.undo(), () -> y.undo()); break;
      case 40:
        if (below(3) == 0) same(y, run, 40, "tear", x.tear(), () -> y.tear());
        break;
      case 41: a = arg(0, 7); same(y, run, 41, "count " + a, x.count(a), () -> y.count(a)); break;
      default: a = arg(-1, 6); same(y, run, 42, "status " + a, x.status(a), () -> y.status(a)); break;
    }
  }

  /** Calls that keep a run alive: slips laid and changed, a year, now and then. */
  private static void act(WordHedge x, PlainHedge y, int run) {
    int slip = below(8), high = below(200), laid = below(3);
    switch (below(12)) {
      case 0: same(y, run, 7, "high", x.change(slip, 2, high), () -> y.change(slip, 2, high)); break;
      case 1: same(y, run, 7, "laid", x.change(slip, 4, laid), () -> y.change(slip, 4, laid)); break;
      case 2: same(y, run, 9, "go 1", x.go(1), () -> y.go(1)); break;
      case 3: lane(x, y, run, 6); break;
      case 4: rest(x, y, run, 31); break;
      default: break;
    }
  }

  private static void texts(WordHedge x, PlainHedge y, int run) {
    String text = text();
    if (below(4) > 0) same(y, run, 29, "wipe", x.wipe(), () -> y.wipe());
    for (int i = 0; i < text.length(); i++) {
      int c = text.charAt(i);
      same(y, run, 28, "feed " + c, x.feed(c, 1), () -> y.feed(c, 1));
    }
    same(y, run, 30, "text '" + text + "'", x.text(), () -> y.text());
  }

  private static void copy(WordHedge x, PlainHedge y, int run) {
    int s = arg(0, 3), from = arg(0, 6), t = arg(0, 3), to = arg(0, 6), n = arg(0, 6);
    String name = "copy " + s + ", " + from + ", " + t + ", " + to + ", " + n;
    same(y, run, 35, name, x.copy(s, from, t, to, n), () -> y.copy(s, from, t, to, n));
  }

  private static void write(WordHedge x, PlainHedge y, int run, int s, int... numbers) {
    same(y, run, 33, "sheet", x.sheet(s, 32, numbers.length), () -> y.sheet(s, 32, numbers.length));
    for (int i = 0; i < numbers.length; i++) {
      int at = i;
      int v = below(6) == 0 ? -1 : numbers[i];
      same(y, run, 34, "write", x.write(s, at, v), () -> y.write(s, at, v));
    }
  }

  /** A sheet tells what a slip of some words or of some kind would do. */
  private static void told(WordHedge x, PlainHedge y, int run) {
    int slip = below(8), what = 5 * below(2), v = 1 + below(6);
    if (x.of(slip, 0) < 0) {
      plain(y, () -> y.of(slip, 0));
      return;
    }
    int was = x.change(slip, what, v);
    int[] numbers = new int[below(12)];
    for (int n = 0; n < numbers.length; n++) {
      numbers[n] = x.ahead(slip, 2, n);
    }
    x.change(slip, what, was);
    write(x, y, run, below(4), numbers);
  }

  private static void standing(WordHedge x, PlainHedge y, int run) {
    int[] numbers = new int[below(20)];
    int slip = below(8), was = x.change(slip, 1, below(16));
    for (int p = 0; p < numbers.length && p < 16; p++) {
      numbers[p] = x.place(p, 0);
    }
    if (was >= 0) x.change(slip, 1, was);
    else plain(y, () -> y.change(slip, 1, 0));
    write(x, y, run, below(4), numbers);
  }

  private static void judged(WordHedge x, PlainHedge y, int run) {
    int[] numbers = new int[Math.min(x.count(1), below(9))];
    for (int i = 0; i < numbers.length; i++) {
      numbers[i] = x.of(i, 3);
    }
    write(x, y, run, below(4), numbers);
  }

  /** All that can be seen is the same in the end. */
  private static void whole(WordHedge x, PlainHedge y, int run) {
    for (int i = 0; i < 8; i++) {
      int at = i;
      same(y, run, 41, "in the end count " + i, x.count(at), () -> y.count(at));
      same(y, run, 10, "in the end now " + i, x.now(at), () -> y.now(at));
      same(y, run, 42, "in the end status " + (i - 1), x.status(at - 1), () -> y.status(at - 1));
      same(y, run, 4, "in the end leaning " + i, x.leaning(at), () -> y.leaning(at));
      for (int what = 0; what < 12; what++) {
        int of = what;
        same(y, run, 6, "in the end of " + i + ", " + what, x.of(at, of), () -> y.of(at, of));
      }
    }
  }
}
