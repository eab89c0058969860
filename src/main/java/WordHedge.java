import java.util.Arrays;

/** A hedge of last words along a lane of sixteen places; ../shared/DOC.md promises what each call answers. */
public final class WordHedge {
  private static final int BEYOND = -1000001;
  private static final int FULL = BEYOND - 1;
  private static final int KIND = BEYOND - 2;
  private static final int NONE = BEYOND - 3;
  private static final int STATE = BEYOND - 4;
  private static final int MISSING = BEYOND - 5;
  private static final int SIZE = BEYOND - 6;
  private static final int FINDINGS = 7;

  private static final int PLACES = 16;
  private static final int ALL_PLACES = 65535;
  private static final int LISTED = 6;
  private static final int MOST_WEIGHT = 99;
  private static final int PER_PLACE = 100;
  private static final int MOST_SLIPS = 8;
  private static final int LAST_YEAR = 99999;
  private static final int MOST_COUNTED = 9999;

  private static final int SLIP = 0;
  private static final int HAWTHORN = 1;
  private static final int PROMISE = 2;
  private static final int LATIN = 3;
  private static final int ELEGY = 4;
  private static final int SLIPPER = 5;
  private static final int MAY = 6;

  private static final int UPRIGHT = 0;
  private static final int TO_GREATER = 1;
  private static final int TO_LESSER = 2;

  private static final int OF_KIND = 0;
  private static final int OF_PLACE = 1;
  private static final int OF_HIGH = 2;
  private static final int OF_THICK = 3;
  private static final int OF_LAID = 4;
  private static final int OF_WORDS = 5;
  private static final int OF_BROKE = 6;
  private static final int OF_REACHES = 7;
  private static final int OF_COVERS = 8;
  private static final int OF_STRONG = 9;
  private static final int OF_GROWS = 10;
  private static final int OF_FILLS = 11;

  private static final int SHEETS = 4;
  private static final int MOST_NUMBERS = 40;
  private static final int ANY = -1;
  private static final int SPOTS = 10;
  private static final int NOTHING = -1;
  private static final int MOST_BYTES = 120;

  private static final int LONGEST_WAIT = 200;
  private static final int LONGEST_FORECAST = 100;
  private static final int LONGEST_PLAN = 60;
  private static final int LONGEST_LAYING = 40;
  private static final int MOST_LEANS = 20;
  private static final int MOST_ODDS = 15;

  private final Lane lane = new Lane();
  private final Lane trial = new Lane();
  private final int[] spots = new int[SPOTS];
  private int z = 1;

  private final Lane keptLane = new Lane();
  private final int[] keptSpots = new int[SPOTS];
  private int keptZ = 1;
  private boolean isKept = false;

  private final Sheet[] sheets = new Sheet[SHEETS];
  private final Tape tape = new Tape();
  private final int[] told = new int[FINDINGS];

  public WordHedge() {
    Arrays.fill(spots, NOTHING);
    Arrays.fill(keptSpots, NOTHING);
    for (int s = 0; s < SHEETS; s++) {
      sheets[s] = new Sheet();
    }
  }

  // ---- lane, slips

  public int hurdles(int set) {
    if (!isIn(set, 0, ALL_PLACES)) return tell(BEYOND);
    int was = lane.hurdleSet;
    lane.hurdleSet = set;
    return was;
  }

  public int place(int place, int what) {
    if (!isPlace(place)) return tell(BEYOND);
    switch (what) {
      case 0: return lane.strengthOf(place);
      case 1: return lane.slipsIn(place);
      case 2: return lane.coverersOf(place);
      case 3: return lane.isGap(place) ? 1 : 0;
      default: return tell(BEYOND);
    }
  }

  public int lean(int i, int place, int weight) {
    if (!isListed(i) || !isPlace(place) || !isWeight(weight)) return tell(BEYOND);
    int was = lane.leanings[i];
    lane.leanings[i] = PER_PLACE * place + weight;
    return was;
  }

  public int leaning(int i) {
    if (!isListed(i)) return tell(BEYOND);
    return lane.leanings[i];
  }

  public int slip(int kind, int place, int words) {
    if (!Slip.allows(OF_KIND, kind) || !isPlace(place) || !Slip.allows(OF_WORDS, words)) return tell(BEYOND);
    Slip added = lane.add(kind, place, words);
    if (added == null) return tell(FULL);
    return lane.size - 1;
  }

  public int of(int slip, int what) {
    Slip asked = lane.slipAt(slip);
    if (asked == null || !isIn(what, OF_KIND, OF_FILLS)) return tell(BEYOND);
    return asked.trait(what, lane.year);
  }

  public int change(int slip, int what, int v) {
    Slip changed = lane.slipAt(slip);
    if (changed == null || !Slip.allows(what, v)) return tell(BEYOND);
    int was = changed.trait(what, lane.year);
    changed.put(what, v);
    return was;
  }

  public int cut(int slip, int v) {
    Slip shortened = lane.slipAt(slip);
    if (shortened == null || !Slip.allows(OF_HIGH, v)) return tell(BEYOND);
    int less = Math.max(0, shortened.high - v);
    shortened.high -= less;
    return less;
  }

  // ---- years

  public int go(int n) {
    if (!isIn(n, 1, LONGEST_PLAN)) return tell(BEYOND);
    if (lane.year > LAST_YEAR - n) return tell(STATE);
    lane.passYears(n);
    return lane.gapSet();
  }

  public int now(int what) {
    switch (what) {
      case 0: return lane.year;
      case 1: return lane.gapSet();
      case 2: return lane.gapsMade;
      case 3: return lane.hurdleSet;
      case 4: return lane.weakestPlace();
      case 5: return lane.sumOf(OF_THICK);
      case 6: return lane.sumOf(OF_BROKE);
      case 7: return lane.sumOf(OF_HIGH);
      default: return tell(BEYOND);
    }
  }

  // ---- what will be: only the trial lane changes

  public int ahead(int slip, int what, int n) {
    if (!isForetold(what) || !isIn(n, 0, LONGEST_FORECAST)) return tell(BEYOND);
    trial.become(lane);
    Slip asked = trial.slipAt(slip);
    if (asked == null) return tell(BEYOND);
    trial.passYears(n);
    return asked.trait(what, trial.year);
  }

  public int strong(int place, int n) {
    if (!isPlace(place) || !isIn(n, 0, LONGEST_FORECAST)) return tell(BEYOND);
    trial.become(lane);
    trial.passYears(n);
    return trial.strengthOf(place);
  }

  public int closed(int place) {
    if (!isPlace(place)) return tell(BEYOND);
    return waitFor(1 << place);
  }

  public int whole() {
    return waitFor(ALL_PLACES);
  }

  public int breaks(int slip) {
    trial.become(lane);
    Slip asked = trial.slipAt(slip);
    if (asked == null) return tell(BEYOND);
    int before = asked.broke;
    for (int n = 1; n <= LONGEST_WAIT; n++) {
      trial.passYear();
      if (asked.broke > before) return n;
    }
    return tell(NONE);
  }

  // ---- how to lay

  public int lay(int slip, int n) {
    return fewestGaps(slip, OF_LAID, n);
  }

  public int plant(int slip, int n) {
    return fewestGaps(slip, OF_PLACE, n);
  }

  public int kindFor(int slip, int n) {
    if (lane.slipAt(slip) == null || !isIn(n, 0, LONGEST_PLAN)) return tell(BEYOND);
    int best = SLIP;
    int greatest = -1;
    for (int kind = SLIP; kind <= MAY; kind++) {
      Slip tried = trySlip(slip, OF_KIND, kind);
      if (tried == null) continue;
      trial.passYears(n);
      int strength = trial.strengthOf(tried.place);
      if (strength > greatest) {
        greatest = strength;
        best = kind;
      }
    }
    return best;
  }

  public int weightFor(int i, int n) {
    if (!isListed(i) || !isIn(n, 0, LONGEST_PLAN)) return tell(BEYOND);
    int lightest = lane.leanings[i] - lane.leanings[i] % PER_PLACE;
    for (int weight = MOST_WEIGHT; weight >= 0; weight--) {
      trial.become(lane);
      trial.leanings[i] = lightest + weight;
      if (trial.madeNoGapIn(n)) return weight;
    }
    return tell(NONE);
  }

  public int layAll(int n) {
    if (!isIn(n, 0, LONGEST_LAYING)) return tell(BEYOND);
    int best = -1;
    int fewest = MOST_SLIPS + 1;
    for (int set = 0; set < 1 << lane.size; set++) {
      if (Integer.bitCount(set) >= fewest) continue;
      trial.become(lane);
      trial.layToGreater(set);
      trial.passYears(n);
      if (trial.gapSet() == 0) {
        best = set;
        fewest = Integer.bitCount(set);
      }
    }
    return best < 0 ? tell(NONE) : best;
  }

  public int hurdlesFor(int n) {
    if (!isIn(n, 0, LONGEST_PLAN)) return tell(BEYOND);
    trial.become(lane);
    trial.hurdleSet = 0;
    Arrays.fill(trial.leanings, 0);
    trial.passYears(n);
    return Integer.bitCount(trial.gapSet());
  }

  // ---- told hedges

  public int words(int s, int slip) {
    return couldBe(s, slip, OF_WORDS);
  }

  public int kinds(int s, int slip) {
    return couldBe(s, slip, OF_KIND);
  }

  public int fits(int s, int slip) {
    Sheet sheet = sheetAt(s);
    if (sheet == null) return tell(BEYOND);
    if (sheet.isMissing()) return tell(MISSING);
    if (lane.slipAt(slip) == null) return tell(BEYOND);
    int set = 0;
    for (int place = 0; place < PLACES; place++) {
      if (trySlip(slip, OF_PLACE, place) == null) continue;
      if (strengthIsAs(sheet)) set |= 1 << place;
    }
    return set;
  }

  // ---- leanings by draws

  public int leans(int n) {
    if (!isIn(n, 1, MOST_LEANS)) return tell(BEYOND);
    if (lane.year > LAST_YEAR - n) return tell(STATE);
    for (int i = 0; i < n; i++) {
      int place = draw() % PLACES;
      int weight = draw() % PER_PLACE;
      lane.leanings[Lane.listedFor(lane.year)] = PER_PLACE * place + weight;
      lane.passYear();
    }
    return lane.gapSet();
  }

  public long odds(int weight, int n, int what) {
    if (!isWeight(weight) || !isIn(n, 0, MOST_ODDS) || !isIn(what, 0, 1)) return tell(BEYOND);
    int above = lane.placesBrokenBy(weight);
    int below = PLACES;
    while (below > 1 && above % 2 == 0) {
      above /= 2;
      below /= 2;
    }
    return power(what == 0 ? above : below, n);
  }

  public int seed(int v) {
    int was = z;
    z = v;
    return was;
  }

  // ---- texts

  public int feed(int bytes, int n) {
    if (!isIn(n, 1, 4)) return tell(BEYOND);
    if (tape.size > MOST_BYTES - n) return tell(FULL);
    for (int i = n - 1; i >= 0; i--) {
      tape.append(bytes >> 8 * i);
    }
    return tape.size;
  }

  public int wipe() {
    int had = tape.size;
    tape.size = 0;
    return had;
  }

  public int text() {
    trial.become(lane);
    int items = tape.readText(trial);
    if (items > 0) lane.become(trial);
    tape.size = 0;
    return items;
  }

  // ---- spots, sheets

  public int hold(int spot, int slip) {
    if (!isIn(spot, 0, SPOTS - 1)) return tell(BEYOND);
    if (slip != NOTHING && lane.slipAt(slip) == null) return tell(BEYOND);
    spots[spot] = slip;
    return 1;
  }

  public int as(int spot, int kind) {
    if (!isIn(spot, 0, SPOTS - 1) || !Slip.allows(OF_KIND, kind)) return tell(BEYOND);
    Slip held = lane.slipAt(spots[spot]);
    if (held == null) return tell(MISSING);
    if (!held.isOne(kind)) return tell(KIND);
    return spots[spot];
  }

  public int sheet(int s, int bits, int n) {
    Sheet sheet = sheetAt(s);
    if (sheet == null || !Sheet.canBeOf(bits)) return tell(BEYOND);
    if (n < 0) return tell(SIZE);
    if (n > MOST_NUMBERS) return tell(BEYOND);
    sheet.renew(bits, n);
    return sheet.size;
  }

  public int write(int s, int i, int v) {
    Sheet sheet = sheetAt(s);
    if (sheet == null) return tell(BEYOND);
    if (sheet.isMissing()) return tell(MISSING);
    if (!isIn(i, 0, sheet.size - 1)) return tell(BEYOND);
    sheet.put(i, v);
    return 1;
  }

  public int copy(int s, int from, int t, int to, int n) {
    Sheet source = sheetAt(s);
    Sheet target = sheetAt(t);
    if (source == null || target == null) return tell(BEYOND);
    if (source.isMissing() || target.isMissing()) return tell(MISSING);
    if (source.bits != target.bits) return tell(KIND);
    if (!source.has(from, n) || !target.has(to, n)) return tell(BEYOND);
    System.arraycopy(source.numbers, from, target.numbers, to, n);
    return n;
  }

  public int load(int s) {
    Sheet sheet = sheetAt(s);
    if (sheet == null) return tell(BEYOND);
    if (sheet.isMissing()) return tell(MISSING);
    int came = 0;
    while (came < LISTED && came < sheet.size && isLeaning(sheet.numbers[came])) {
      lane.leanings[came] = sheet.numbers[came];
      came++;
    }
    return came;
  }

  public int judge(int s) {
    Sheet sheet = sheetAt(s);
    if (sheet == null) return tell(BEYOND);
    if (sheet.isMissing()) return tell(MISSING);
    for (int i = 0; i < sheet.size; i++) {
      Slip judged = lane.slipAt(i);
      if (judged == null || judged.thick != sheet.numbers[i]) return 1 + i;
    }
    return 0;
  }

  // ---- images

  public int image() {
    keptLane.become(lane);
    System.arraycopy(spots, 0, keptSpots, 0, SPOTS);
    keptZ = z;
    isKept = true;
    return 1;
  }

  public int undo() {
    if (!isKept) return tell(NONE);
    lane.become(keptLane);
    System.arraycopy(keptSpots, 0, spots, 0, SPOTS);
    z = keptZ;
    return lane.year;
  }

  public int tear() {
    int was = isKept ? 1 : 0;
    isKept = false;
    return was;
  }

  public int count(int what) {
    switch (what) {
      case 0: return lane.year;
      case 1: return lane.size;
      case 2: return Integer.bitCount(lane.gapSet());
      case 3: return lane.gapsMade;
      case 4: return lane.sumOf(OF_BROKE);
      case 5: return tape.size;
      case 6: return z;
      case 7: return spotsInUse();
      default: return tell(BEYOND);
    }
  }

  public int status(int which) {
    if (which == -1) return toldInAll();
    if (!isIn(which, 0, FINDINGS - 1)) return tell(BEYOND);
    return told[which];
  }

  // ---- what the calls share

  private int tell(int finding) {
    int which = BEYOND - finding;
    if (isIn(which, 0, FINDINGS - 1)) told[which]++;
    return finding;
  }

  private int toldInAll() {
    int all = 0;
    for (int times : told) {
      all += times;
    }
    return all;
  }

  private int spotsInUse() {
    int used = 0;
    for (int held : spots) {
      if (held != NOTHING) used++;
    }
    return used;
  }

  private Sheet sheetAt(int s) {
    return isIn(s, 0, SHEETS - 1) ? sheets[s] : null;
  }

  private int draw() {
    z = z * 1103515245 + 12345;
    return z >>> 8;
  }

  /** The lane on trial, with one slip as it is not; null if there is no such slip. */
  private Slip trySlip(int slip, int what, int v) {
    trial.become(lane);
    Slip tried = trial.slipAt(slip);
    if (tried != null) tried.put(what, v);
    return tried;
  }

  private int waitFor(int places) {
    trial.become(lane);
    for (int n = 0; n <= LONGEST_WAIT; n++) {
      if ((trial.gapSet() & places) == 0) return n;
      trial.passYear();
    }
    return tell(NONE);
  }

  private int fewestGaps(int slip, int what, int n) {
    if (lane.slipAt(slip) == null || !isIn(n, 0, LONGEST_PLAN)) return tell(BEYOND);
    int best = 0;
    int fewest = PLACES + 1;
    for (int v = 0; v <= Slip.most(what); v++) {
      trySlip(slip, what, v);
      trial.passYears(n);
      int gaps = Integer.bitCount(trial.gapSet());
      if (gaps < fewest) {
        fewest = gaps;
        best = v;
      }
    }
    return best;
  }

  private int couldBe(int s, int slip, int what) {
    Sheet sheet = sheetAt(s);
    if (sheet == null) return tell(BEYOND);
    if (sheet.isMissing()) return tell(MISSING);
    if (lane.slipAt(slip) == null) return tell(BEYOND);
    int set = 0;
    for (int v = Slip.least(what); v <= Slip.most(what); v++) {
      Slip tried = trySlip(slip, what, v);
      if (tried != null && highIsAs(sheet, tried)) set |= 1 << v;
    }
    return set;
  }

  private boolean highIsAs(Sheet sheet, Slip tried) {
    for (int i = 0; i < sheet.size; i++) {
      if (!sheet.agrees(i, tried.high)) return false;
      trial.passYear();
    }
    return true;
  }

  private boolean strengthIsAs(Sheet sheet) {
    for (int i = 0; i < sheet.size && i < PLACES; i++) {
      if (!sheet.agrees(i, trial.strengthOf(i))) return false;
    }
    return true;
  }

  private static boolean isIn(int v, int least, int most) {
    return v >= least && v <= most;
  }

  private static boolean isPlace(int place) {
    return isIn(place, 0, PLACES - 1);
  }

  private static boolean isListed(int i) {
    return isIn(i, 0, LISTED - 1);
  }

  private static boolean isWeight(int weight) {
    return isIn(weight, 0, MOST_WEIGHT);
  }

  private static boolean isLeaning(int number) {
    return isIn(number, 0, PER_PLACE * PLACES - 1);
  }

  private static boolean isForetold(int what) {
    return what == OF_HIGH || what == OF_THICK || what == OF_BROKE || what == OF_REACHES || what == OF_STRONG;
  }

  private static long power(int base, int n) {
    long product = 1;
    for (int i = 0; i < n; i++) {
      product *= base;
    }
    return product;
  }

  /** One slip; a formula names what its kind takes over from the one above, as "asSlip". */
  private static final class Slip {
    private static final int DEEPEST_KIND = 3;
    private static final int MOST_HIGH = 199;
    private static final int MOST_THICK = 99;
    private static final int MOST_WORDS = 12;
    private static final int FIRST_HIGH = 20;
    private static final int FIRST_THICK = 5;

    private int kind;
    private int place;
    private int high;
    private int thick;
    private int laid;
    private int words;
    private int broke;

    static int least(int what) {
      return what == OF_WORDS ? 1 : 0;
    }

    /** What can't be changed has no value that may stand: its most is below its least. */
    static int most(int what) {
      switch (what) {
        case OF_KIND: return MAY;
        case OF_PLACE: return PLACES - 1;
        case OF_HIGH: return MOST_HIGH;
        case OF_THICK: return MOST_THICK;
        case OF_LAID: return TO_LESSER;
        case OF_WORDS: return MOST_WORDS;
        case OF_BROKE: return MOST_COUNTED;
        default: return -1;
      }
    }

    static boolean allows(int what, int v) {
      return isIn(v, least(what), most(what));
    }

    void start(int newKind, int newPlace, int newWords) {
      kind = newKind;
      place = newPlace;
      high = FIRST_HIGH;
      thick = FIRST_THICK;
      laid = UPRIGHT;
      words = newWords;
      broke = 0;
    }

    void become(Slip other) {
      kind = other.kind;
      place = other.place;
      high = other.high;
      thick = other.thick;
      laid = other.laid;
      words = other.words;
      broke = other.broke;
    }

    boolean isOne(int wanted) {
      int one = kind;
      for (int steps = 0; steps < DEEPEST_KIND && one != wanted; steps++) {
        one = kindAbove(one);
      }
      return one == wanted;
    }

    private static int kindAbove(int kind) {
      switch (kind) {
        case LATIN: return PROMISE;
        case ELEGY: return LATIN;
        case MAY: return HAWTHORN;
        default: return SLIP;
      }
    }

    int reaches() {
      int asSlip = high / 40;
      switch (kind) {
        case HAWTHORN:
        case MAY: return words <= 4 ? asSlip + 1 : asSlip;
        case LATIN: return 2 * asSlip;
        case ELEGY: return asSlip > 0 ? 2 * asSlip - 1 : 0;
        case SLIPPER: return 0;
        default: return asSlip;
      }
    }

    int coverSet() {
      int first = laid == TO_LESSER ? Math.max(0, place - reaches()) : place;
      int last = laid == TO_GREATER ? Math.min(PLACES - 1, place + reaches()) : place;
      return (2 << last) - (1 << first);
    }

    boolean isCovering(int asked) {
      if (asked == place) return true;
      if (laid == TO_GREATER) return asked > place && asked - place <= reaches();
      return laid == TO_LESSER && asked < place && place - asked <= reaches();
    }

    int strongIn(int year) {
      int asPromise = isLaid() ? thick : thick + 10;
      int asHawthorn = thick + 12 - words;
      switch (kind) {
        case HAWTHORN: return asHawthorn;
        case MAY: return year % 5 == 0 ? asHawthorn + 5 : asHawthorn;
        case PROMISE:
        case LATIN: return asPromise;
        case ELEGY: return asPromise + high / 5;
        case SLIPPER: return thick / 2;
        default: return thick;
      }
    }

    int growth() {
      int asPromise = isLaid() ? 6 : 12;
      int asHawthorn = 12 - words;
      switch (kind) {
        case HAWTHORN: return asHawthorn;
        case MAY: return asHawthorn + 4;
        case PROMISE: return asPromise;
        case LATIN: return asPromise + words;
        case ELEGY: return (asPromise + words) / 2;
        case SLIPPER: return 3;
        default: return 12;
      }
    }

    int filling() {
      int asSlip = isLaid() ? 3 : 1;
      switch (kind) {
        case HAWTHORN:
        case MAY: return asSlip + 1;
        case SLIPPER: return 0;
        default: return asSlip;
      }
    }

    boolean isLaid() {
      return laid != UPRIGHT;
    }

    int trait(int what, int year) {
      switch (what) {
        case OF_KIND: return kind;
        case OF_PLACE: return place;
        case OF_HIGH: return high;
        case OF_THICK: return thick;
        case OF_LAID: return laid;
        case OF_WORDS: return words;
        case OF_BROKE: return broke;
        case OF_REACHES: return reaches();
        case OF_COVERS: return coverSet();
        case OF_STRONG: return strongIn(year);
        case OF_GROWS: return growth();
        case OF_FILLS: return filling();
        default: return 0;
      }
    }

    void put(int what, int v) {
      switch (what) {
        case OF_KIND: kind = v; break;
        case OF_PLACE: place = v; break;
        case OF_HIGH: high = v; break;
        case OF_THICK: thick = v; break;
        case OF_LAID: laid = v; break;
        case OF_WORDS: words = v; break;
        case OF_BROKE: broke = v; break;
        default: break;
      }
    }

    void giveWay() {
      high /= 2;
      thick = Math.max(0, thick - 5);
      broke = Math.min(MOST_COUNTED, broke + 1);
    }

    void grow() {
      high = Math.min(MOST_HIGH, high + growth());
      thick = Math.min(MOST_THICK, thick + filling());
    }
  }

  /** The lane with its slips, hurdles, the list and the years; all that the forecasts try out on a second one. */
  private static final class Lane {
    private static final int HURDLE_STRENGTH = 40;

    private final Slip[] slips = new Slip[MOST_SLIPS];
    private final int[] leanings = new int[LISTED];
    private int size = 0;
    private int hurdleSet = 0;
    private int gapsMade = 0;
    private int year = 0;

    Lane() {
      for (int i = 0; i < MOST_SLIPS; i++) {
        slips[i] = new Slip();
      }
    }

    static int listedFor(int year) {
      return Math.floorMod(year, LISTED);
    }

    void become(Lane other) {
      for (int i = 0; i < other.size && i < MOST_SLIPS; i++) {
        slips[i].become(other.slips[i]);
      }
      System.arraycopy(other.leanings, 0, leanings, 0, LISTED);
      size = other.size;
      hurdleSet = other.hurdleSet;
      gapsMade = other.gapsMade;
      year = other.year;
    }

    Slip slipAt(int i) {
      return isIn(i, 0, size - 1) && i < MOST_SLIPS ? slips[i] : null;
    }

    /** The new slip; null if there are as many as can be. */
    Slip add(int kind, int place, int words) {
      if (size >= MOST_SLIPS) return null;
      Slip added = slips[size];
      added.start(kind, place, words);
      size++;
      return added;
    }

    int slipsIn(int place) {
      int set = 0;
      for (int i = 0; i < size; i++) {
        if (slips[i].place == place) set |= 1 << i;
      }
      return set;
    }

    int coverersOf(int place) {
      int set = 0;
      for (int i = 0; i < size; i++) {
        if (slips[i].isCovering(place)) set |= 1 << i;
      }
      return set;
    }

    int strengthOf(int place) {
      int strength = hasHurdle(place) ? HURDLE_STRENGTH : 0;
      for (int i = 0; i < size; i++) {
        if (slips[i].isCovering(place)) strength += slips[i].strongIn(year);
      }
      return strength;
    }

    boolean hasHurdle(int place) {
      return (hurdleSet >> place & 1) == 1;
    }

    int gapSet() {
      int closedSet = hurdleSet;
      for (int i = 0; i < size; i++) {
        closedSet |= slips[i].coverSet();
      }
      return ALL_PLACES & ~closedSet;
    }

    boolean isGap(int place) {
      return (gapSet() >> place & 1) == 1;
    }

    int weakestPlace() {
      int weakest = 0;
      for (int place = 1; place < PLACES; place++) {
        if (strengthOf(place) < strengthOf(weakest)) weakest = place;
      }
      return weakest;
    }

    int placesBrokenBy(int weight) {
      int broken = 0;
      for (int place = 0; place < PLACES; place++) {
        if (weight > strengthOf(place)) broken++;
      }
      return broken;
    }

    int sumOf(int what) {
      int sum = 0;
      for (int i = 0; i < size; i++) {
        sum += slips[i].trait(what, year);
      }
      return sum;
    }

    void layToGreater(int set) {
      for (int i = 0; i < size; i++) {
        slips[i].laid = (set >> i & 1) == 1 ? TO_GREATER : UPRIGHT;
      }
    }

    void passYears(int n) {
      for (int i = 0; i < n; i++) {
        passYear();
      }
    }

    void passYear() {
      int leaning = leanings[listedFor(year)];
      int place = leaning / PER_PLACE;
      if (leaning % PER_PLACE > strengthOf(place)) breakDown(place);
      for (int i = 0; i < size; i++) {
        slips[i].grow();
      }
      year = Math.min(LAST_YEAR, year + 1);
    }

    private void breakDown(int place) {
      hurdleSet &= ~(1 << place);
      for (int i = 0; i < size; i++) {
        if (slips[i].isCovering(place)) slips[i].giveWay();
      }
      gapsMade = Math.min(MOST_COUNTED, gapsMade + 1);
    }

    boolean madeNoGapIn(int n) {
      int before = gapsMade;
      for (int i = 0; i < n && gapsMade == before; i++) {
        passYear();
      }
      return gapsMade == before;
    }
  }

  /** A row of numbers of so many bits; of 0 bits it is missing. */
  private static final class Sheet {
    private final int[] numbers = new int[MOST_NUMBERS];
    private int bits = 0;
    private int size = 0;

    static boolean canBeOf(int bits) {
      return bits == 0 || bits == 8 || bits == 16 || bits == 32;
    }

    boolean isMissing() {
      return bits == 0;
    }

    void renew(int newBits, int n) {
      Arrays.fill(numbers, 0);
      bits = newBits;
      size = newBits == 0 ? 0 : n;
    }

    void put(int i, int v) {
      if (!isIn(i, 0, size - 1)) return;
      switch (bits) {
        case 8: numbers[i] = (byte) v; break;
        case 16: numbers[i] = (short) v; break;
        default: numbers[i] = v; break;
      }
    }

    /** No sum of the two is made: it could wrap around. */
    boolean has(int from, int n) {
      return from >= 0 && n >= 0 && from <= size - n;
    }

    boolean agrees(int i, int v) {
      return isIn(i, 0, size - 1) && (numbers[i] == ANY || numbers[i] == v);
    }
  }

  /** Read token by token; where reading refuses, the token it stands at is the fault. */
  private static final class Tape {
    private static final int END = 0;
    private static final int WORD = 1;
    private static final int NUMBER = 2;
    private static final int SEMICOLON = 3;
    private static final int NO_TOKEN = 4;
    private static final int REFUSED = -1;
    private static final int MOST_NUMBER = 99999;
    private static final int FIRST_WORDS = 4;

    private final byte[] bytes = new byte[MOST_BYTES];
    private int size = 0;
    private int token = END;
    private int start = 0;
    private int end = 0;

    void append(int v) {
      if (size >= MOST_BYTES) return;
      bytes[size] = (byte) v;
      size++;
    }

    /** How many items the lane got, or -1 less the fault (then the lane is half done). */
    int readText(Lane lane) {
      end = 0;
      step();
      for (int items = 1; items <= MOST_BYTES; items++) {
        if (!readItem(lane)) return -1 - start;
        if (token == END) return items;
        if (token != SEMICOLON) return -1 - start;
        step();
      }
      return -1 - start;
    }

    private boolean readItem(Lane lane) {
      if (isWord("hurdles")) return readHurdles(lane);
      if (isWord("lean")) return readLeaning(lane);
      int kind = kindNamed();
      if (kind == REFUSED || lane.size >= MOST_SLIPS) return false;
      step();
      return readSlip(lane, kind);
    }

    private boolean readHurdles(Lane lane) {
      step();
      int set = readNumber(0, ALL_PLACES);
      if (set == REFUSED) return false;
      lane.hurdleSet = set;
      return true;
    }

    private boolean readLeaning(Lane lane) {
      step();
      int i = readNumber(0, LISTED - 1);
      if (!isListed(i)) return false;
      int place = readNumber(0, PLACES - 1);
      if (place == REFUSED) return false;
      int weight = readNumber(0, MOST_WEIGHT);
      if (weight == REFUSED) return false;
      lane.leanings[i] = PER_PLACE * place + weight;
      return true;
    }

    private boolean readSlip(Lane lane, int kind) {
      int place = readPart("in", OF_PLACE, 0);
      if (place == REFUSED) return false;
      int words = readPart("words", OF_WORDS, FIRST_WORDS);
      if (words == REFUSED) return false;
      int high = readPart("high", OF_HIGH, Slip.FIRST_HIGH);
      if (high == REFUSED) return false;
      Slip added = lane.add(kind, place, words);
      if (added == null) return false;
      added.high = high;
      added.laid = readLaid();
      return true;
    }

    /** A part that may be left out: its number, or the one without it. */
    private int readPart(String word, int what, int without) {
      if (!isWord(word)) return without;
      step();
      return readNumber(Slip.least(what), Slip.most(what));
    }

    private int readLaid() {
      int laid = isWord("up") ? TO_GREATER : isWord("down") ? TO_LESSER : UPRIGHT;
      if (laid != UPRIGHT) step();
      return laid;
    }

    private int readNumber(int least, int most) {
      if (token != NUMBER) return REFUSED;
      int number = numberTold();
      if (!isIn(number, least, most)) return REFUSED;
      step();
      return number;
    }

    /** A number above the most that may stand is one more digit at most: it can't wrap around. */
    private int numberTold() {
      int number = 0;
      for (int i = start; i < end && i < size && number <= MOST_NUMBER; i++) {
        number = 10 * number + bytes[i] - '0';
      }
      return number;
    }

    private int kindNamed() {
      if (isWord("slip")) return SLIP;
      if (isWord("hawthorn")) return HAWTHORN;
      if (isWord("promise")) return PROMISE;
      if (isWord("latin")) return LATIN;
      if (isWord("elegy")) return ELEGY;
      if (isWord("slipper")) return SLIPPER;
      if (isWord("may")) return MAY;
      return REFUSED;
    }

    private boolean isWord(String word) {
      if (token != WORD || end - start != word.length()) return false;
      for (int i = 0; i < word.length(); i++) {
        if (bytes[start + i] != word.charAt(i)) return false;
      }
      return true;
    }

    /** The next token; one loop each, and no calls, as this is where the calls are deepest. */
    private void step() {
      start = end;
      while (start < size && bytes[start] == ' ') {
        start++;
      }
      end = start;
      token = WORD;
      while (end < size && bytes[end] >= 'a' && bytes[end] <= 'z') {
        end++;
      }
      if (end > start) return;
      token = NUMBER;
      while (end < size && bytes[end] >= '0' && bytes[end] <= '9') {
        end++;
      }
      if (end > start) return;
      token = END;
      if (end >= size) return;
      token = bytes[end] == ';' ? SEMICOLON : NO_TOKEN;
      end++;
    }
  }
}
