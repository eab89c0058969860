import java.util.ArrayList;
import java.util.List;
import java.util.function.IntPredicate;

/**
 * The document once more, in other words, for RunsTest: kinds are classes under one another, a forecast is a
 * hedge copied and lived through, a finding is an exception. It shares no line with WordHedge.
 */
final class PlainHedge {
  /** A finding on its way out of a call. */
  static final class Finding extends RuntimeException {
    final int number;

    Finding(int number) {
      super(null, null, false, false);
      this.number = number;
    }
  }

  static class Slip {
    int kind, place, high = 20, thick = 5, laid, words, broke;

    int reaches() { return high / 40; }
    int strong(int year) { return thick; }
    int grows() { return 12; }
    int fills() { return laid == 0 ? 1 : 3; }

    final boolean covers(int p) {
      if (p == place) return true;
      int away = laid == 1 ? p - place : laid == 2 ? place - p : -1;
      return away > 0 && away <= reaches();
    }
  }

  static class Hawthorn extends Slip {
    @Override int reaches() { return super.reaches() + (words <= 4 ? 1 : 0); }
    @Override int strong(int year) { return super.strong(year) + 12 - words; }
    @Override int grows() { return super.grows() - words; }
    @Override int fills() { return super.fills() + 1; }
  }

  static class May extends Hawthorn {
    @Override int strong(int year) { return super.strong(year) + (year % 5 == 0 ? 5 : 0); }
    @Override int grows() { return super.grows() + 4; }
  }

  static class Promise extends Slip {
    @Override int strong(int year) { return super.strong(year) + (laid == 0 ? 10 : 0); }
    @Override int grows() { return super.grows() - (laid != 0 ? 6 : 0); }
  }

  static class Latin extends Promise {
    @Override int reaches() { return 2 * super.reaches(); }
    @Override int grows() { return super.grows() + words; }
  }

  static class Elegy extends Latin {
    @Override int reaches() { return Math.max(super.reaches() - 1, 0); }
    @Override int strong(int year) { return super.strong(year) + high / 5; }
    @Override int grows() { return super.grows() / 2; }
  }

  static class Slipper extends Slip {
    @Override int reaches() { return 0; }
    @Override int strong(int year) { return super.strong(year) / 2; }
    @Override int grows() { return 3; }
    @Override int fills() { return 0; }
  }

  private static Slip ofKind(int kind) {
    Slip made = switch (kind) {
      case 0 -> new Slip();
      case 1 -> new Hawthorn();
      case 2 -> new Promise();
      case 3 -> new Latin();
      case 4 -> new Elegy();
      case 5 -> new Slipper();
      default -> new May();
    };
    made.kind = kind;
    return made;
  }

  private static Slip with(Slip old, int what, int v) {
    int[] t = {old.kind, old.place, old.high, old.thick, old.laid, old.words, old.broke};
    if (what >= 0) t[what] = v;
    Slip s = ofKind(t[0]);
    s.place = t[1];
    s.high = t[2];
    s.thick = t[3];
    s.laid = t[4];
    s.words = t[5];
    s.broke = t[6];
    return s;
  }

  /** All that an image keeps. */
  static final class World {
    List<Slip> slips = new ArrayList<>();
    boolean[] hurdles = new boolean[16];
    int[] at = new int[6], weights = new int[6], spots = {-1, -1, -1, -1, -1, -1, -1, -1, -1, -1};
    int gapsMade, year, z = 1;

    World copy() {
      World w = new World();
      for (Slip s : slips) w.slips.add(with(s, -1, 0));
      w.hurdles = hurdles.clone();
      w.at = at.clone();
      w.weights = weights.clone();
      w.spots = spots.clone();
      w.gapsMade = gapsMade;
      w.year = year;
      w.z = z;
      return w;
    }

    World but(int slip, int what, int v) {
      World w = copy();
      w.slips.set(slip, with(w.slips.get(slip), what, v));
      return w;
    }

    World behind(int n) {
      World w = copy();
      for (int i = 0; i < n; i++) w.year();
      return w;
    }

    int strength(int p) {
      return (hurdles[p] ? 40 : 0) + slips.stream().filter(s -> s.covers(p)).mapToInt(s -> s.strong(year)).sum();
    }

    boolean gap(int p) { return !hurdles[p] && slips.stream().noneMatch(s -> s.covers(p)); }

    int gaps() { return set(16, this::gap); }

    void year() {
      int i = year % 6, p = at[i];
      if (weights[i] > strength(p)) {
        for (Slip s : slips.stream().filter(s -> s.covers(p)).toList()) {
          s.high = s.high / 2;
          s.thick = Math.max(s.thick - 5, 0);
          s.broke = Math.min(s.broke + 1, 9999);
        }
        hurdles[p] = false;
        gapsMade = Math.min(gapsMade + 1, 9999);
      }
      for (Slip s : slips) {
        s.high = Math.min(s.high + s.grows(), 199);
        s.thick = Math.min(s.thick + s.fills(), 99);
      }
      year = Math.min(year + 1, 99999);
    }

    int draw() {
      z = z * 1103515245 + 12345;
      return z >>> 8;
    }
  }

  static int set(int n, IntPredicate in) {
    int set = 0;
    for (int i = 0; i < n; i++) if (in.test(i)) set |= 1 << i;
    return set;
  }

  private static final int BEYOND = Due.BEYOND;
  private World w = new World();
  private World kept;
  private final int[][] sheets = new int[4][];
  private final int[] bits = new int[4];
  private StringBuilder tape = new StringBuilder();
  final int[] findings = new int[7];

  private static void must(boolean so, int finding) {
    if (!so) throw new Finding(finding);
  }

  private static void range(int v, int least, int most) { must(v >= least && v <= most, BEYOND); }

  private Slip slipAt(int i) {
    range(i, 0, w.slips.size() - 1);
    return w.slips.get(i);
  }

  int hurdles(int set) {
    range(set, 0, 65535);
    int was = now(3);
    for (int p = 0; p < 16; p++) w.hurdles[p] = (set >> p) % 2 == 1;
    return was;
  }

  int place(int place, int what) {
    range(place, 0, 15);
    range(what, 0, 3);
    if (what == 0) return w.strength(place);
    if (what == 1) return set(w.slips.size(), i -> w.slips.get(i).place == place);
    if (what == 2) return set(w.slips.size(), i -> w.slips.get(i).covers(place));
    return w.gap(place) ? 1 : 0;
  }

  int lean(int i, int place, int weight) {
    int was = leaning(i);
    range(place, 0, 15);
    range(weight, 0, 99);
    w.at[i] = place;
    w.weights[i] = weight;
    return was;
  }

  int leaning(int i) {
    range(i, 0, 5);
    return 100 * w.at[i] + w.weights[i];
  }

  int slip(int kind, int place, int words) {
    range(kind, 0, 6);
    range(place, 0, 15);
    range(words, 1, 12);
    must(w.slips.size() < 8, Due.FULL);
    Slip s = ofKind(kind);
    s.place = place;
    s.words = words;
    w.slips.add(s);
    return w.slips.size() - 1;
  }

  private static int of(Slip s, int what, int year) {
    int[] traits = {s.kind, s.place, s.high, s.thick, s.laid, s.words, s.broke, s.reaches(), set(16, s::covers),
        s.strong(year), s.grows(), s.fills()};
    return traits[what];
  }

  int of(int slip, int what) {
    range(what, 0, 11);
    return of(slipAt(slip), what, w.year);
  }

  int change(int slip, int what, int v) {
    range(what, 0, 6);
    int was = of(slip, what);
    range(v, what == 5 ? 1 : 0, new int[] {6, 15, 199, 99, 2, 12, 9999}[what]);
    w.slips.set(slip, with(w.slips.get(slip), what, v));
    return was;
  }

  int cut(int slip, int v) {
    Slip s = slipAt(slip);
    range(v, 0, 199);
    int by = s.high > v ? s.high - v : 0;
    s.high -= by;
    return by;
  }

  int go(int n) {
    range(n, 1, 60);
    must(w.year + n <= 99999, Due.STATE);
    w = w.behind(n);
    return w.gaps();
  }

  int now(int what) {
    range(what, 0, 7);
    int weakest = 15;
    for (int p = 15; p >= 0; p--) if (w.strength(p) <= w.strength(weakest)) weakest = p;
    int thick = 0, broke = 0, high = 0;
    for (Slip s : w.slips) {
      thick += s.thick;
      broke += s.broke;
      high += s.high;
    }
    return new int[] {w.year, w.gaps(), w.gapsMade, set(16, p -> w.hurdles[p]), weakest, thick, broke, high}[what];
  }

  int ahead(int slip, int what, int n) {
    must(List.of(2, 3, 6, 7, 9).contains(what), BEYOND);
    slipAt(slip);
    range(n, 0, 100);
    World then = w.behind(n);
    return of(then.slips.get(slip), what, then.year);
  }

  int strong(int place, int n) {
    range(place, 0, 15);
    range(n, 0, 100);
    return w.behind(n).strength(place);
  }

  private interface When {
    boolean is(World then);
  }

  private int first(int least, When when) {
    World then = w.behind(least);
    for (int n = least; n <= 200; n++, then.year()) if (when.is(then)) return n;
    throw new Finding(Due.NONE);
  }

  int closed(int place) {
    range(place, 0, 15);
    return first(0, then -> !then.gap(place));
  }

  int whole() { return first(0, then -> then.gaps() == 0); }

  int breaks(int slip) {
    int broke = slipAt(slip).broke;
    return first(1, then -> then.slips.get(slip).broke > broke);
  }

  private int fewestGaps(int slip, int what, int most, int n) {
    slipAt(slip);
    range(n, 0, 60);
    int best = most;
    for (int v = most; v >= 0; v--) if (gaps(slip, what, v, n) <= gaps(slip, what, best, n)) best = v;
    return best;
  }

  private int gaps(int slip, int what, int v, int n) {
    return Integer.bitCount(w.but(slip, what, v).behind(n).gaps());
  }

  int lay(int slip, int n) { return fewestGaps(slip, 4, 2, n); }

  int plant(int slip, int n) { return fewestGaps(slip, 1, 15, n); }

  int kindFor(int slip, int n) {
    int place = slipAt(slip).place;
    range(n, 0, 60);
    int best = 6, greatest = -1;
    for (int kind = 6; kind >= 0; kind--) {
      int strength = w.but(slip, 0, kind).behind(n).strength(place);
      if (strength >= greatest) best = kind;
      greatest = Math.max(greatest, strength);
    }
    return best;
  }

  int weightFor(int i, int n) {
    range(i, 0, 5);
    range(n, 0, 60);
    int best = Due.NONE;
    for (int weight = 0; weight <= 99; weight++) {
      World then = w.copy();
      then.weights[i] = weight;
      if (then.behind(n).gapsMade == w.gapsMade) best = weight;
    }
    must(best >= 0, Due.NONE);
    return best;
  }

  int layAll(int n) {
    range(n, 0, 40);
    for (int many = 0; many <= w.slips.size(); many++) {
      for (int set = 0; set < 1 << w.slips.size(); set++) {
        if (Integer.bitCount(set) != many) continue;
        World then = w.copy();
        for (int i = 0; i < w.slips.size(); i++) then = then.but(i, 4, (set >> i) % 2);
        if (then.behind(n).gaps() == 0) return set;
      }
    }
    throw new Finding(Due.NONE);
  }

  int hurdlesFor(int n) {
    range(n, 0, 60);
    World then = w.copy();
    then.weights = new int[6];
    World last = then.behind(n);
    int wanted = 0;
    for (int p = 0; p < 16; p++) {
      last.hurdles[p] = false;
      if (last.gap(p)) wanted++;
    }
    return wanted;
  }

  private int[] sheetAt(int s) {
    range(s, 0, 3);
    must(bits[s] != 0, Due.MISSING);
    return sheets[s];
  }

  private static boolean says(int told, int is) { return told == -1 || told == is; }

  private int couldBe(int s, int slip, int what, int least, int most) {
    int[] told = sheetAt(s);
    slipAt(slip);
    return set(most + 1, v -> {
      if (v < least) return false;
      World then = w.but(slip, what, v);
      for (int n = 0; n < told.length; n++) if (!says(told[n], then.behind(n).slips.get(slip).high)) return false;
      return true;
    });
  }

  int words(int s, int slip) { return couldBe(s, slip, 5, 1, 12); }

  int kinds(int s, int slip) { return couldBe(s, slip, 0, 0, 6); }

  int fits(int s, int slip) {
    int[] told = sheetAt(s);
    slipAt(slip);
    return set(16, v -> {
      World then = w.but(slip, 1, v);
      for (int p = 0; p < 16 && p < told.length; p++) if (!says(told[p], then.strength(p))) return false;
      return true;
    });
  }

  int leans(int n) {
    range(n, 1, 20);
    must(w.year + n <= 99999, Due.STATE);
    for (int i = 0; i < n; i++) {
      w.at[w.year % 6] = w.draw() % 16;
      w.weights[w.year % 6] = w.draw() % 100;
      w.year();
    }
    return w.gaps();
  }

  long odds(int weight, int n, int what) {
    range(weight, 0, 99);
    range(n, 0, 15);
    range(what, 0, 1);
    long k = Integer.bitCount(set(16, p -> weight > w.strength(p))), above = 1, below = 1;
    for (int i = 0; i < n; i++) {
      above *= k;
      below *= 16;
    }
    long a = above, b = below;
    while (b != 0) {
      long rest = a % b;
      a = b;
      b = rest;
    }
    return what == 0 ? above / a : below / a;
  }

  int seed(int v) {
    int was = w.z;
    w.z = v;
    return was;
  }

  int feed(int bytes, int n) {
    range(n, 1, 4);
    must(tape.length() + n <= 120, Due.FULL);
    for (int i = 1; i <= n; i++) tape.append((char) (bytes >>> 8 * (n - i) & 255));
    return tape.length();
  }

  int wipe() {
    int had = tape.length();
    tape = new StringBuilder();
    return had;
  }

  /** A text is cut into tokens first, then read; "" is the end. */
  int text() {
    String t = tape.toString();
    tape = new StringBuilder();
    List<String> tokens = new ArrayList<>();
    List<Integer> starts = new ArrayList<>();
    java.util.regex.Matcher m = java.util.regex.Pattern.compile("[a-z]+|[0-9]+|[^ ]", 32).matcher(t);
    while (m.find()) {
      tokens.add(m.group());
      starts.add(m.start());
    }
    tokens.add("");
    starts.add(t.length());
    World before = w.copy();
    int at = 0, items = 0;
    try {
      do {
        at = item(tokens, items == 0 ? 0 : at + 1);
        items++;
        if (!tokens.get(at).equals(";") && !tokens.get(at).isEmpty()) throw new Finding(at);
      } while (tokens.get(at).equals(";"));
      return items;
    } catch (Finding fault) {
      w = before;
      return -1 - starts.get(fault.number);
    }
  }

  private static int number(List<String> tokens, int at, int least, int most) {
    String t = tokens.get(at);
    if (!t.matches("[0-9]+")) throw new Finding(at);
    java.math.BigInteger v = new java.math.BigInteger(t);
    if (v.bitLength() > 20 || v.intValue() < least || v.intValue() > most) throw new Finding(at);
    return v.intValue();
  }

  private int item(List<String> tokens, int at) {
    String t = tokens.get(at);
    if (t.equals("hurdles")) {
      hurdles(number(tokens, at + 1, 0, 65535));
      return at + 2;
    }
    if (t.equals("lean")) {
      int i = number(tokens, at + 1, 0, 5), place = number(tokens, at + 2, 0, 15);
      lean(i, place, number(tokens, at + 3, 0, 99));
      return at + 4;
    }
    int kind = List.of("slip", "hawthorn", "promise", "latin", "elegy", "slipper", "may").indexOf(t);
    if (kind < 0 || w.slips.size() == 8) throw new Finding(at);
    Slip s = w.slips.get(slip(kind, 0, 4));
    at++;
    if (tokens.get(at).equals("in")) {
      s.place = number(tokens, at + 1, 0, 15);
      at += 2;
    }
    if (tokens.get(at).equals("words")) {
      s.words = number(tokens, at + 1, 1, 12);
      at += 2;
    }
    if (tokens.get(at).equals("high")) {
      s.high = number(tokens, at + 1, 0, 199);
      at += 2;
    }
    s.laid = 1 + List.of("up", "down").indexOf(tokens.get(at));
    return s.laid == 0 ? at : at + 1;
  }

  int hold(int spot, int slip) {
    range(spot, 0, 9);
    range(slip, -1, w.slips.size() - 1);
    w.spots[spot] = slip;
    return 1;
  }

  int as(int spot, int kind) {
    range(spot, 0, 9);
    range(kind, 0, 6);
    must(w.spots[spot] >= 0, Due.MISSING);
    must(ofKind(kind).getClass().isInstance(w.slips.get(w.spots[spot])), Due.KIND);
    return w.spots[spot];
  }

  int sheet(int s, int b, int n) {
    range(s, 0, 3);
    must(List.of(0, 8, 16, 32).contains(b), BEYOND);
    must(n >= 0, Due.SIZE);
    range(n, 0, 40);
    bits[s] = b;
    sheets[s] = new int[b == 0 ? 0 : n];
    return sheets[s].length;
  }

  int write(int s, int i, int v) {
    int[] sheet = sheetAt(s);
    range(i, 0, sheet.length - 1);
    int unused = 32 - bits[s];
    sheet[i] = v << unused >> unused;
    return 1;
  }

  int copy(int s, int from, int t, int to, int n) {
    range(s, 0, 3);
    range(t, 0, 3);
    int[] source = sheetAt(s).clone(), target = sheetAt(t);
    must(bits[s] == bits[t], Due.KIND);
    must(from >= 0 && to >= 0 && n >= 0, BEYOND);
    must((long) from + n <= source.length && (long) to + n <= target.length, BEYOND);
    for (int i = 0; i < n; i++) target[to + i] = source[from + i];
    return n;
  }

  int load(int s) {
    int[] sheet = sheetAt(s);
    int came = 0;
    for (int v : sheet) {
      if (came == 6 || v < 0 || v / 100 > 15) break;
      lean(came++, v / 100, v % 100);
    }
    return came;
  }

  int judge(int s) {
    int[] sheet = sheetAt(s);
    for (int i = 0; i < sheet.length; i++) {
      if (i >= w.slips.size() || w.slips.get(i).thick != sheet[i]) return 1 + i;
    }
    return 0;
  }

  int image() {
    kept = w.copy();
    return 1;
  }

  int undo() {
    must(kept != null, Due.NONE);
    w = kept.copy();
    return w.year;
  }

  int tear() {
    int was = kept == null ? 0 : 1;
    kept = null;
    return was;
  }

  int count(int what) {
    range(what, 0, 7);
    int held = 0;
    for (int s : w.spots) if (s >= 0) held++;
    return new int[] {w.year, w.slips.size(), Integer.bitCount(w.gaps()), w.gapsMade, now(6), tape.length(), w.z,
        held}[what];
  }

  int status(int which) {
    range(which, -1, 6);
    int all = 0;
    for (int times : findings) all += times;
    return which < 0 ? all : findings[which];
  }
}
