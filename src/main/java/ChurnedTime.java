// Hours churned into pounds that feed works; ../shared/DOC.md says what each call answers.
public final class ChurnedTime {
  public static final int BAD = -1, STATE = -2, FULL = -3, NONE = -9;
  public static final int NO = -1000000;

  private static final int MOST_LETTERS = 150;
  private static final int MOST_DAYS = 14;
  private static final int MOST_WORKS = 6;
  private static final int MOST_DAIRIES = 5;
  private static final int MOST_CLAIMS = 4;
  private static final int MOST_UNDONE = 10;
  private static final int MOST_TASTED = 6;
  private static final int MOST_AGES = 3;
  private static final int MOST_IMAGES = 2;
  private static final int MOST_NUMBERS = 3;
  private static final int MOST_AT_ONCE = 99;
  private static final int MOST_SHARED = 999;
  private static final int MILD = 5;
  private static final int FAULTS = -10;

  private final Letters letters = new Letters();
  private Told told = new Told();
  // A text that has a FAULT changes nothing, so it is read into a second Told first.
  private Told draft = new Told();
  private final Barn barn = new Barn();
  private final Past past = new Past();
  private final Barn[] images = new Barn[MOST_IMAGES];
  private final boolean[] kept = new boolean[MOST_IMAGES];
  private final Turnip turnip = new Turnip();
  private final Years years = new Years();
  private long traced = 0;

  public ChurnedTime() {
    for (int i = 0; i < MOST_IMAGES; i++) images[i] = new Barn();
  }

  // ---- the dairy

  public int type(int letter) {
    if (!within(letter, 0, 255)) return BAD;
    return letters.addLetter(letter) ? letters.length : FULL;
  }

  public int clear() {
    int had = letters.length;
    letters.length = 0;
    return had;
  }

  public int dairy() {
    int items = letters.readInto(draft);
    if (items < 0) return items;
    Told newer = draft;
    draft = told;
    told = newer;
    letters.length = 0;
    beginAnew();
    return items;
  }

  public int day(int d, int what) {
    if (!isDay(d)) return BAD;
    switch (what) {
      case 0: return told.hoursOf(d);
      case 1: return told.warmthOf(d);
      default: return BAD;
    }
  }

  public int work(int w, int what) {
    if (!isWork(w)) return BAD;
    switch (what) {
      case 0: return told.dueOf(w);
      case 1: return told.poundsOf(w);
      case 2: return told.worthOf(w);
      case 3: return barn.isFed(w) ? 1 : 0;
      default: return BAD;
    }
  }

  public int now(int what) {
    switch (what) {
      case 0: return barn.theDay;
      case 1: return barn.hours;
      case 2: return barn.cream;
      case 3: return barn.beaten;
      case 4: return barn.allFresh();
      case 5: return barn.salted;
      case 6: return barn.rancid;
      case 7: return barn.quarrel ? 1 : 0;
      case 8: return barn.fed;
      case 9: return need();
      case 10: return past.known;
      default: return BAD;
    }
  }

  public int fresh(int age) {
    if (!within(age, 0, MOST_AGES - 1)) return BAD;
    return barn.freshOf[age];
  }

  // ---- what is done

  public int stands() {
    if (isOver() || barn.stood) return STATE;
    past.remember(barn);
    barn.stood = true;
    barn.hours = told.hoursOf(barn.theDay);
    return barn.hours;
  }

  public int beats(int n) {
    if (!within(n, 1, MOST_AT_ONCE)) return BAD;
    if (barn.cream == 0) return STATE;
    past.remember(barn);
    barn.beaten += n;
    return barn.beaten >= strokes() ? barn.come() : NONE;
  }

  public int salts(int n) {
    if (!within(n, 1, MOST_AT_ONCE)) return BAD;
    if (barn.allFresh() < n) return STATE;
    past.remember(barn);
    barn.salted += barn.takeFresh(n);
    return barn.salted;
  }

  public int quarrels(int is) {
    if (!within(is, 0, 1)) return BAD;
    if (barn.quarrel == (is == 1)) return STATE;
    past.remember(barn);
    barn.quarrel = is == 1;
    return strokes();
  }

  public int feeds(int w) {
    if (!isWork(w)) return BAD;
    if (!canBeFed(w) || barn.held() < told.poundsOf(w)) return STATE;
    past.remember(barn);
    barn.feed(w, told.poundsOf(w));
    return barn.held();
  }

  public int night() {
    if (isOver()) return STATE;
    past.remember(barn);
    barn.sleep();
    return barn.theDay;
  }

  public int undo() {
    return past.recall(barn) ? past.known : STATE;
  }

  // ---- what comes

  public int coming(int d) {
    if (!isDay(d) || d < barn.theDay) return BAD;
    return comingBy(d);
  }

  public int menu(int what) {
    if (!within(what, 0, 1)) return BAD;
    int best = bestMenu();
    return what == 0 ? best : told.worthOfAll(best);
  }

  // ---- turnip

  public int tasted(int set, int is) {
    if (!within(set, 1, told.sets() - 1) || !within(is, 0, 1)) return BAD;
    return turnip.addTasting(set, is) ? turnip.known : FULL;
  }

  public int forget() {
    int had = turnip.known;
    turnip.known = 0;
    return had;
  }

  public int cheats(int what) {
    if (!within(what, 0, 2)) return BAD;
    int sets = told.sets();
    if (what == 0) return turnip.possible(sets);
    return what == 1 ? turnip.inAll(sets) : turnip.fewest(sets);
  }

  public int taste() {
    return turnip.bestTaste(told.sets());
  }

  // ---- uncles, duchesses, thunder

  public int share(int c, int n) {
    if (!within(c, 0, told.claims - 1) || !within(n, 0, MOST_SHARED)) return BAD;
    int all = Math.max(1, told.allClaims());
    int over = n * told.claimOf(c) % all;
    int left = n;
    int ahead = 0;
    for (int i = 0; i < told.claims; i++) {
      int part = n * told.claimOf(i);
      left -= part / all;
      if (part % all > over || (part % all == over && i < c)) ahead++;
    }
    return n * told.claimOf(c) / all + (ahead < left ? 1 : 0);
  }

  public int back(int a, int b, int u, int v, int what) {
    if (!within(a, 0, Years.LAST) || !within(b, 0, Years.LAST)) return BAD;
    if (!within(u, 1, 20) || !within(v, 1, 20) || !within(what, 0, 1)) return BAD;
    years.strokeFrom(a, u, v);
    if (years.strokesOf[b] < 0) return NONE;
    return what == 0 ? years.strokesOf[b] : years.forwardOf[b];
  }

  public int odds(int n, int x, int k, int what) {
    if (!within(n, 0, 6) || !within(x, 0, 10)) return BAD;
    if (!within(k, 0, 6) || !within(what, 0, 1)) return BAD;
    int upper = 0;
    for (int j = k; j <= n; j++) upper += ways(n, j) * power(x, j) * power(10 - x, n - j);
    int lower = power(10, n);
    int common = Math.max(1, commonDivisor(upper, lower));
    return (what == 0 ? upper : lower) / common;
  }

  // ---- kinds, images

  public int rate(int kind, int d) {
    if (!isDay(d)) return NO;
    switch (kind) {
      case 0: return rateDay(d);
      case 1: return rateWet(d);
      case 2: return rateBlue(d);
      case 3: return rateSunday(d);
      case 4: return rateApril(d);
      case 5: return rateMarket(d);
      default: return NO;
    }
  }

  public int keep(int image) {
    if (!within(image, 0, MOST_IMAGES - 1)) return BAD;
    copy(barn, images[image]);
    kept[image] = true;
    return barn.theDay;
  }

  public int again(int image) {
    if (!within(image, 0, MOST_IMAGES - 1)) return BAD;
    if (!kept[image]) return STATE;
    copy(images[image], barn);
    past.known = 0;
    return barn.theDay;
  }

  public int count(int what) {
    switch (what) {
      case 0: return told.days;
      case 1: return told.works;
      case 2: return told.dairies;
      case 3: return told.claims;
      case 4: return turnip.known;
      case 5: return letters.length;
      default: return BAD;
    }
  }

  public long trace() {
    return traced;
  }

  // ---- what the calls share

  private static boolean within(int n, int least, int most) {
    return n >= least && n <= most;
  }

  private static void copy(Barn from, Barn to) {
    if (from == null || to == null) return;
    to.theDay = from.theDay;
    to.stood = from.stood;
    to.hours = from.hours;
    to.cream = from.cream;
    to.beaten = from.beaten;
    to.salted = from.salted;
    to.rancid = from.rancid;
    to.quarrel = from.quarrel;
    to.fed = from.fed;
    for (int age = 0; age < MOST_AGES; age++) to.freshOf[age] = from.freshOf[age];
  }

  private void beginAnew() {
    barn.empty();
    past.known = 0;
    turnip.known = 0;
    for (int i = 0; i < MOST_IMAGES; i++) kept[i] = false;
  }

  private boolean isDay(int d) {
    return within(d, 0, told.days - 1);
  }

  private boolean isWork(int w) {
    return within(w, 0, told.works - 1);
  }

  private boolean isOver() {
    return barn.theDay >= told.days;
  }

  private boolean canBeFed(int w) {
    return !barn.isFed(w) && barn.theDay <= told.dueOf(w);
  }

  private int strokes() {
    int warmth = isOver() ? MILD : told.warmthOf(barn.theDay);
    return 10 + 3 * Math.abs(warmth - MILD) + (barn.quarrel ? 10 : 0);
  }

  // A QUARREL that ends may leave more BEATEN than STROKES; still it comes only when it is beaten.
  private int need() {
    return barn.cream == 0 ? 0 : Math.max(1, strokes() - barn.beaten);
  }

  // Behind the last DAY as by that; OVER: no DAY is gone through.
  private int comingBy(int d) {
    int pounds = barn.held();
    int cream = barn.cream;
    for (int t = barn.theDay; t <= d && t < told.days; t++) {
      pounds += cream / 3;
      cream = cream % 3 + told.hoursOf(t) / 2;
    }
    return pounds;
  }

  private int bestMenu() {
    int best = 0;
    int most = 0;
    for (int set = 1; set < 1 << told.works; set++) {
      int worth = told.worthOfAll(set);
      if (worth > most && canAllBeFed(set)) {
        best = set;
        most = worth;
      }
    }
    return best;
  }

  // What is COMING never falls, so only the DAYS on which one is DUE can be too early.
  private boolean canAllBeFed(int set) {
    for (int w = 0; w < told.works; w++) {
      if ((set >> w & 1) == 0) continue;
      if (!canBeFed(w)) return false;
      if (told.poundsDueBy(set, told.dueOf(w)) > comingBy(told.dueOf(w))) return false;
    }
    return true;
  }

  private static int ways(int n, int k) {
    int ways = 1;
    for (int i = 1; i <= k; i++) ways = ways * (n - k + i) / i;
    return ways;
  }

  private static int power(int base, int times) {
    int product = 1;
    for (int i = 0; i < times; i++) product *= base;
    return product;
  }

  private static int commonDivisor(int a, int b) {
    int larger = a;
    int smaller = b;
    for (int i = 0; i < 100 && smaller != 0; i++) {
      int rest = larger % smaller;
      larger = smaller;
      smaller = rest;
    }
    return larger;
  }

  private int rateDay(int d) {
    traced += 1;
    return told.hoursOf(d);
  }

  private int rateWet(int d) {
    traced += 10;
    return rateDay(d) + told.warmthOf(d);
  }

  private int rateBlue(int d) {
    traced += 100;
    return rateDay(d) - barn.cream;
  }

  private int rateSunday(int d) {
    traced += 1000;
    return 2 * rateWet(d);
  }

  private int rateApril(int d) {
    traced += 10000;
    return rateBlue(d) + d;
  }

  private int rateMarket(int d) {
    traced += 100000;
    return rateDay(d) + barn.salted;
  }

  // What a text tells.
  private static final class Told {
    int days = 0;
    int works = 0;
    int claims = 0;
    int dairies = 3;
    boolean dairiesTold = false;
    final int[] hours = new int[MOST_DAYS];
    final int[] warmth = new int[MOST_DAYS];
    final int[] due = new int[MOST_WORKS];
    final int[] pounds = new int[MOST_WORKS];
    final int[] worth = new int[MOST_WORKS];
    final int[] claimYears = new int[MOST_CLAIMS];

    void untell() {
      days = 0;
      works = 0;
      claims = 0;
      dairies = 3;
      dairiesTold = false;
    }

    boolean hasRoomFor(int item) {
      switch (item) {
        case 'd': return days < MOST_DAYS;
        case 'w': return works < MOST_WORKS;
        case 'c': return claims < MOST_CLAIMS;
        case 'f': return !dairiesTold;
        default: return false;
      }
    }

    void addDay(int h, int w) {
      if (!within(days, 0, MOST_DAYS - 1)) return;
      hours[days] = h;
      warmth[days] = w;
      days++;
    }

    void addWork(int d, int p, int v) {
      if (!within(works, 0, MOST_WORKS - 1)) return;
      due[works] = d;
      pounds[works] = p;
      worth[works] = v;
      works++;
    }

    void addClaim(int n) {
      if (!within(claims, 0, MOST_CLAIMS - 1)) return;
      claimYears[claims] = n;
      claims++;
    }

    void tellDairies(int n) {
      dairies = n;
      dairiesTold = true;
    }

    int hoursOf(int d) {
      return within(d, 0, MOST_DAYS - 1) ? hours[d] : 0;
    }

    int warmthOf(int d) {
      return within(d, 0, MOST_DAYS - 1) ? warmth[d] : 0;
    }

    int dueOf(int w) {
      return within(w, 0, MOST_WORKS - 1) ? due[w] : 0;
    }

    int poundsOf(int w) {
      return within(w, 0, MOST_WORKS - 1) ? pounds[w] : 0;
    }

    int worthOf(int w) {
      return within(w, 0, MOST_WORKS - 1) ? worth[w] : 0;
    }

    int claimOf(int c) {
      return within(c, 0, MOST_CLAIMS - 1) ? claimYears[c] : 0;
    }

    int allClaims() {
      int all = 0;
      for (int c = 0; c < claims; c++) all += claimOf(c);
      return all;
    }

    int worthOfAll(int set) {
      int sum = 0;
      for (int w = 0; w < works; w++) if ((set >> w & 1) != 0) sum += worthOf(w);
      return sum;
    }

    int poundsDueBy(int set, int d) {
      int sum = 0;
      for (int w = 0; w < works; w++) {
        if ((set >> w & 1) != 0 && dueOf(w) <= d) sum += poundsOf(w);
      }
      return sum;
    }

    // How many sets of DAIRIES there are, that of none too.
    int sets() {
      return 1 << dairies;
    }
  }

  // THE TEXT, and how it is read token by token.
  private static final class Letters {
    int length = 0;
    private final int[] row = new int[MOST_LETTERS];
    private final int[] numbers = new int[MOST_NUMBERS];
    private int item = 0; // the letter of the item that is open; 0: none is
    private int filled = 0; // how many numbers the open item has

    boolean addLetter(int letter) {
      if (!within(length, 0, MOST_LETTERS - 1)) return false;
      row[length] = letter;
      length++;
      return true;
    }

    // How many items, or the FAULT as dairy() answers it.
    int readInto(Told draft) {
      int items = 0;
      int end = 0;
      draft.untell();
      item = 0;
      filled = 0;
      for (int tokens = 0; tokens <= MOST_LETTERS; tokens++) {
        int start = behindBlanks(end);
        if (start >= length) break;
        end = behindToken(start);
        if (!takesToken(start, end, draft)) return FAULTS - start;
        if (letterAt(start) == ';') items++;
      }
      return item == 0 ? items : FAULTS - length;
    }

    private int letterAt(int place) {
      return within(place, 0, MOST_LETTERS - 1) && place < length ? row[place] : 0;
    }

    private boolean isDigit(int place) {
      return within(letterAt(place), '0', '9');
    }

    private int behindBlanks(int place) {
      int end = place;
      while (end < length && letterAt(end) == ' ') end++;
      return end;
    }

    private int behindToken(int start) {
      int end = start + 1;
      if (!isDigit(start)) return end;
      while (end < length && isDigit(end)) end++;
      return end;
    }

    private boolean takesToken(int start, int end, Told draft) {
      int letter = letterAt(start);
      if (isDigit(start)) return takesNumber(start, end);
      if (letter == ';') return closesItem(draft);
      if (item != 0 || !draft.hasRoomFor(letter)) return false;
      item = letter;
      filled = 0;
      return true;
    }

    private boolean takesNumber(int start, int end) {
      if (item == 0 || filled >= numbersOf(item) || !within(filled, 0, MOST_NUMBERS - 1)) return false;
      boolean twoDigits = end - start == 2;
      if (end - start > 2 || (twoDigits && letterAt(start) == '0')) return false;
      int number = letterAt(start) - '0';
      if (twoDigits) number = 10 * number + letterAt(start + 1) - '0';
      if (!within(number, leastNumber(item, filled), mostNumber(item, filled))) return false;
      numbers[filled] = number;
      filled++;
      return true;
    }

    private boolean closesItem(Told draft) {
      if (item == 0 || filled != numbersOf(item)) return false;
      switch (item) {
        case 'd':
          draft.addDay(numbers[0], numbers[1]);
          break;
        case 'w':
          draft.addWork(numbers[0], numbers[1], numbers[2]);
          break;
        case 'f':
          draft.tellDairies(numbers[0]);
          break;
        default:
          draft.addClaim(numbers[0]);
      }
      item = 0;
      return true;
    }

    private static int numbersOf(int item) {
      switch (item) {
        case 'd': return 2;
        case 'w': return 3;
        default: return 1;
      }
    }

    private static int leastNumber(int item, int which) {
      switch (item) {
        case 'd': return 0;
        case 'w': return which == 1 ? 1 : 0;
        default: return 1;
      }
    }

    private static int mostNumber(int item, int which) {
      switch (item) {
        case 'd': return which == 0 ? 24 : 9;
        case 'w': return which == 0 ? MOST_DAYS - 1 : which == 1 ? 30 : 99;
        case 'f': return MOST_DAIRIES;
        default: return 99;
      }
    }
  }

  // All that a call of what is done changes, and an image keeps.
  private static final class Barn {
    int theDay = 0;
    boolean stood = false; // hours of 0 stand, too
    int hours = 0;
    int cream = 0;
    int beaten = 0;
    int salted = 0;
    int rancid = 0;
    boolean quarrel = false;
    int fed = 0;
    final int[] freshOf = new int[MOST_AGES];

    void empty() {
      theDay = 0;
      stood = false;
      hours = 0;
      cream = 0;
      beaten = 0;
      salted = 0;
      rancid = 0;
      quarrel = false;
      fed = 0;
      for (int age = 0; age < MOST_AGES; age++) freshOf[age] = 0;
    }

    boolean isFed(int w) {
      return (fed >> w & 1) != 0;
    }

    int allFresh() {
      int sum = 0;
      for (int age = 0; age < MOST_AGES; age++) sum += freshOf[age];
      return sum;
    }

    int held() {
      return allFresh() + salted;
    }

    int come() {
      int pounds = cream / 3;
      freshOf[0] += pounds;
      cream = cream % 3;
      beaten = 0;
      return pounds;
    }

    // The oldest first; how many there were to take.
    int takeFresh(int n) {
      int left = n;
      for (int age = MOST_AGES - 1; age >= 0; age--) {
        int taken = Math.min(left, freshOf[age]);
        freshOf[age] -= taken;
        left -= taken;
      }
      return n - left;
    }

    void feed(int w, int pounds) {
      salted -= pounds - takeFresh(pounds);
      fed |= 1 << w;
    }

    void sleep() {
      cream += hours / 2;
      hours = 0;
      stood = false;
      rancid += freshOf[MOST_AGES - 1];
      for (int age = MOST_AGES - 1; age > 0; age--) freshOf[age] = freshOf[age - 1];
      freshOf[0] = 0;
      beaten = 0;
      theDay++;
    }
  }

  // The barn as it was ahead of each call that may be undone, the latest of them, in a ring.
  private static final class Past {
    int known = 0;
    private int next = 0;
    private final Barn[] ring = new Barn[MOST_UNDONE];

    Past() {
      for (int i = 0; i < MOST_UNDONE; i++) ring[i] = new Barn();
    }

    void remember(Barn barn) {
      if (!within(next, 0, MOST_UNDONE - 1)) return;
      copy(barn, ring[next]);
      next = (next + 1) % MOST_UNDONE;
      known = Math.min(known + 1, MOST_UNDONE);
    }

    boolean recall(Barn barn) {
      if (known == 0) return false;
      next = (next + MOST_UNDONE - 1) % MOST_UNDONE;
      if (!within(next, 0, MOST_UNDONE - 1)) return false;
      copy(ring[next], barn);
      known--;
      return true;
    }
  }

  // What was tasted, and which sets of cheats can be by it.
  private static final class Turnip {
    int known = 0;
    private final int[] sets = new int[MOST_TASTED];
    private final int[] was = new int[MOST_TASTED];

    boolean addTasting(int set, int is) {
      if (!within(known, 0, MOST_TASTED - 1)) return false;
      sets[known] = set;
      was[known] = is;
      known++;
      return true;
    }

    private boolean canBe(int cheats) {
      for (int i = 0; i < known && i < MOST_TASTED; i++) {
        if (((cheats & sets[i]) != 0) != (was[i] == 1)) return false;
      }
      return true;
    }

    int possible(int ofSets) {
      int sum = 0;
      for (int cheats = 0; cheats < ofSets; cheats++) if (canBe(cheats)) sum++;
      return sum;
    }

    int inAll(int ofSets) {
      int all = NONE;
      for (int cheats = 0; cheats < ofSets; cheats++) {
        if (canBe(cheats)) all = all == NONE ? cheats : all & cheats;
      }
      return all;
    }

    int fewest(int ofSets) {
      int least = NONE;
      for (int cheats = 0; cheats < ofSets; cheats++) {
        int size = Integer.bitCount(cheats);
        if (canBe(cheats) && (least == NONE || size < least)) least = size;
      }
      return least;
    }

    int bestTaste(int ofSets) {
      int all = possible(ofSets);
      if (all <= 1) return NONE;
      int best = NONE;
      int least = all + 1;
      for (int set = 1; set < ofSets; set++) {
        int turnip = tastingOf(set, ofSets);
        int greater = Math.max(turnip, all - turnip);
        if (greater < least) {
          best = set;
          least = greater;
        }
      }
      return best;
    }

    // In how many of CHEATS this set tastes of turnip.
    private int tastingOf(int set, int ofSets) {
      int sum = 0;
      for (int cheats = 0; cheats < ofSets; cheats++) {
        if ((cheats & set) != 0 && canBe(cheats)) sum++;
      }
      return sum;
    }
  }

  // The years 0 .. 99, gone through by strokes forward and backward, the nearest first.
  private static final class Years {
    static final int LAST = 99;
    final int[] strokesOf = new int[LAST + 1]; // below 0: not come to
    // Ways of as many strokes between the same years have as many forward, so the first is the least.
    final int[] forwardOf = new int[LAST + 1];
    private final int[] queue = new int[LAST + 1];
    private int queued = 0;

    void strokeFrom(int start, int forward, int backward) {
      for (int year = 0; year <= LAST; year++) strokesOf[year] = -1;
      queued = 0;
      comeTo(start, 0, 0);
      for (int i = 0; i < queued && i <= LAST; i++) {
        int year = queue[i];
        if (!within(year, 0, LAST)) return;
        comeTo(year + forward, strokesOf[year] + 1, forwardOf[year] + 1);
        comeTo(year - backward, strokesOf[year] + 1, forwardOf[year]);
      }
    }

    private void comeTo(int year, int strokes, int forwards) {
      if (!within(year, 0, LAST) || strokesOf[year] >= 0 || !within(queued, 0, LAST)) return;
      strokesOf[year] = strokes;
      forwardOf[year] = forwards;
      queue[queued] = year;
      queued++;
    }
  }
}
