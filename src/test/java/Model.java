import java.math.BigInteger;
import java.util.ArrayDeque;
import java.util.ArrayList;
import java.util.Deque;
import java.util.List;
import java.util.TreeMap;

// The document written plainly a second time, by other means than the class, for ModelTest.
final class Model {
  // Section 2: each pound that is held is a number, its age; salted ones are counted.
  record Barn(int day, boolean stood, int cream, int beaten, List<Integer> ages, int salted, int rancid,
      boolean quarrel, List<Integer> fed) {}

  private static final Barn FIRST = new Barn(0, false, 0, 0, List.of(), 0, 0, false, List.of());

  private String text = "";
  private List<int[]> days = new ArrayList<>();
  private List<int[]> works = new ArrayList<>();
  private List<Integer> claims = new ArrayList<>();
  private int dairies = 3;
  private Barn barn = FIRST;
  private final Deque<Barn> past = new ArrayDeque<>();
  private final TreeMap<Integer, Barn> images = new TreeMap<>();
  private final List<int[]> tasted = new ArrayList<>();
  private long trace = 0;

  int type(int letter) {
    if (letter < 0 || letter > 255) return -1;
    if (text.length() == 150) return -3;
    text += (char) letter;
    return text.length();
  }

  int clear() {
    int had = text.length();
    text = "";
    return had;
  }

  // A text is read by what may come next, written as a pattern of ranges.
  int dairy() {
    List<int[]> newDays = new ArrayList<>();
    List<int[]> newWorks = new ArrayList<>();
    List<Integer> newClaims = new ArrayList<>();
    List<Integer> newDairies = new ArrayList<>();
    List<int[]> expected = new ArrayList<>();
    List<Integer> got = new ArrayList<>();
    char open = 0;
    int items = 0;
    int at = 0;
    while (true) {
      while (at < text.length() && text.charAt(at) == ' ') at++;
      if (at == text.length()) break;
      int start = at;
      String token = "" + text.charAt(at++);
      if ("0123456789".contains(token)) {
        while (at < text.length() && "0123456789".indexOf(text.charAt(at)) >= 0) token += text.charAt(at++);
        if (open == 0 || got.size() == expected.size()) return -10 - start;
        int[] range = expected.get(got.size());
        BigInteger number = new BigInteger(token);
        if (!number.toString().equals(token)) return -10 - start;
        if (number.compareTo(BigInteger.valueOf(range[0])) < 0) return -10 - start;
        if (number.compareTo(BigInteger.valueOf(range[1])) > 0) return -10 - start;
        got.add(number.intValue());
      } else if (token.equals(";")) {
        if (open == 0 || got.size() != expected.size()) return -10 - start;
        if (open == 'd') newDays.add(new int[] {got.get(0), got.get(1)});
        if (open == 'w') newWorks.add(new int[] {got.get(0), got.get(1), got.get(2)});
        if (open == 'f') newDairies.add(got.get(0));
        if (open == 'c') newClaims.add(got.get(0));
        items++;
        open = 0;
      } else {
        if (open != 0) return -10 - start;
        open = token.charAt(0);
        got.clear();
        expected.clear();
        if (open == 'd' && newDays.size() < 14) {
          expected.add(new int[] {0, 24});
          expected.add(new int[] {0, 9});
        } else if (open == 'w' && newWorks.size() < 6) {
          expected.add(new int[] {0, 13});
          expected.add(new int[] {1, 30});
          expected.add(new int[] {0, 99});
        } else if (open == 'f' && newDairies.isEmpty()) {
          expected.add(new int[] {1, 5});
        } else if (open == 'c' && newClaims.size() < 4) {
          expected.add(new int[] {1, 99});
        } else {
          return -10 - start;
        }
      }
    }
    if (open != 0) return -10 - text.length();
    days = newDays;
    works = newWorks;
    claims = newClaims;
    dairies = newDairies.isEmpty() ? 3 : newDairies.get(0);
    barn = FIRST;
    past.clear();
    images.clear();
    tasted.clear();
    text = "";
    return items;
  }

  int day(int d, int what) {
    if (d < 0 || d >= days.size() || what < 0 || what > 1) return -1;
    return days.get(d)[what];
  }

  int work(int w, int what) {
    if (w < 0 || w >= works.size() || what < 0 || what > 3) return -1;
    return what == 3 ? (barn.fed.contains(w) ? 1 : 0) : works.get(w)[what];
  }

  private boolean over() {
    return barn.day == days.size();
  }

  private int strokes() {
    int warmth = over() ? 5 : days.get(barn.day)[1];
    int off = warmth > 5 ? warmth - 5 : 5 - warmth;
    return 10 + 3 * off + (barn.quarrel ? 10 : 0);
  }

  private int standing() {
    return barn.stood ? days.get(barn.day)[0] : 0;
  }

  int now(int what) {
    int bits = 0;
    for (int w : barn.fed) bits += 1 << w;
    int need = 0;
    if (barn.cream > 0) {
      need = 1;
      while (barn.beaten + need < strokes()) need++;
    }
    int[] all = {barn.day, standing(), barn.cream, barn.beaten, barn.ages.size(), barn.salted, barn.rancid,
      barn.quarrel ? 1 : 0, bits, need, past.size()};
    return what < 0 || what >= all.length ? -1 : all[what];
  }

  int fresh(int age) {
    if (age < 0 || age > 2) return -1;
    return (int) barn.ages.stream().filter(a -> a == age).count();
  }

  private void become(Barn next) {
    past.addLast(barn);
    if (past.size() > 10) past.removeFirst();
    barn = next;
  }

  int stands() {
    if (over() || barn.stood) return -2;
    become(new Barn(barn.day, true, barn.cream, barn.beaten, barn.ages, barn.salted, barn.rancid, barn.quarrel,
        barn.fed));
    return standing();
  }

  int beats(int n) {
    if (n < 1 || n > 99) return -1;
    if (barn.cream == 0) return -2;
    int beaten = barn.beaten + n;
    boolean comes = beaten >= strokes();
    List<Integer> ages = new ArrayList<>(barn.ages);
    int cream = barn.cream;
    while (comes && cream >= 3) {
      ages.add(0);
      cream -= 3;
    }
    int came = ages.size() - barn.ages.size();
    become(new Barn(barn.day, barn.stood, cream, comes ? 0 : beaten, ages, barn.salted, barn.rancid, barn.quarrel,
        barn.fed));
    return comes ? came : -9;
  }

  private static void takeOldest(List<Integer> ages) {
    int oldest = 0;
    for (int i = 1; i < ages.size(); i++) if (ages.get(i) > ages.get(oldest)) oldest = i;
    ages.remove(oldest);
  }

  int salts(int n) {
    if (n < 1 || n > 99) return -1;
    if (n > barn.ages.size()) return -2;
    List<Integer> ages = new ArrayList<>(barn.ages);
    for (int i = 0; i < n; i++) takeOldest(ages);
    become(new Barn(barn.day, barn.stood, barn.cream, barn.beaten, ages, barn.salted + n, barn.rancid,
        barn.quarrel, barn.fed));
    return barn.salted;
  }

  int quarrels(int is) {
    if (is != 0 && is != 1) return -1;
    if (barn.quarrel == (is == 1)) return -2;
    become(new Barn(barn.day, barn.stood, barn.cream, barn.beaten, barn.ages, barn.salted, barn.rancid, is == 1,
        barn.fed));
    return strokes();
  }

  int feeds(int w) {
    if (w < 0 || w >= works.size()) return -1;
    int pounds = works.get(w)[1];
    if (barn.fed.contains(w) || barn.day > works.get(w)[0] || pounds > barn.ages.size() + barn.salted) return -2;
    List<Integer> ages = new ArrayList<>(barn.ages);
    int salted = barn.salted;
    for (int i = 0; i < pounds; i++) {
      if (ages.isEmpty()) salted--;
      else takeOldest(ages);
    }
    List<Integer> fed = new ArrayList<>(barn.fed);
    fed.add(w);
    become(new Barn(barn.day, barn.stood, barn.cream, barn.beaten, ages, salted, barn.rancid, barn.quarrel, fed));
    return barn.ages.size() + barn.salted;
  }

  int night() {
    if (over()) return -2;
    List<Integer> ages = new ArrayList<>();
    int rancid = barn.rancid;
    for (int age : barn.ages) {
      if (age == 2) rancid++;
      else ages.add(age + 1);
    }
    become(new Barn(barn.day + 1, false, barn.cream + standing() / 2, 0, ages, barn.salted, rancid, barn.quarrel,
        barn.fed));
    return barn.day;
  }

  int undo() {
    if (past.isEmpty()) return -2;
    barn = past.removeLast();
    return past.size();
  }

  // By the calls themselves: a model of its own goes through the days.
  int coming(int d) {
    if (d < barn.day || d >= days.size()) return -1;
    return comingBy(d);
  }

  private int comingBy(int d) {
    Model other = new Model();
    other.days = days;
    other.barn = barn;
    while (true) {
      if (other.barn.cream > 0 && !other.over()) {
        while (other.beats(1) == -9) continue;
        if (!other.barn.ages.isEmpty()) other.salts(other.barn.ages.size());
      }
      if (other.barn.day >= d || other.over()) break;
      other.stands();
      if (!other.barn.ages.isEmpty()) other.salts(other.barn.ages.size());
      other.night();
      if (other.over()) break;
    }
    return other.barn.ages.size() + other.barn.salted;
  }

  int menu(int what) {
    if (what != 0 && what != 1) return -1;
    int[] by = new int[15];
    for (int d = barn.day; d <= 14; d++) {
      by[d] = over() ? barn.ages.size() + barn.salted : comingBy(Math.min(d, days.size() - 1));
    }
    int best = 0;
    int most = 0;
    for (int set = (1 << works.size()) - 1; set >= 0; set--) {
      int worth = worthIfFits(set, by);
      if (worth >= most) {
        most = worth;
        best = set;
      }
    }
    return what == 0 ? best : most;
  }

  private int worthIfFits(int set, int[] by) {
    int worth = 0;
    for (int w = 0; w < works.size(); w++) {
      if ((set & 1 << w) == 0) continue;
      if (barn.fed.contains(w) || works.get(w)[0] < barn.day) return -1;
      worth += works.get(w)[2];
    }
    for (int d = barn.day; d <= 14; d++) {
      int pounds = 0;
      for (int w = 0; w < works.size(); w++) {
        if ((set & 1 << w) != 0 && works.get(w)[0] <= d) pounds += works.get(w)[1];
      }
      if (pounds > by[d]) return -1;
    }
    return worth;
  }

  int tasted(int set, int is) {
    if (set < 1 || set >= 1 << dairies || is < 0 || is > 1) return -1;
    if (tasted.size() == 6) return -3;
    tasted.add(new int[] {set, is});
    return tasted.size();
  }

  int forget() {
    int had = tasted.size();
    tasted.clear();
    return had;
  }

  private List<Integer> possible() {
    List<Integer> sets = new ArrayList<>();
    for (int s = 0; s < 1 << dairies; s++) {
      int cheats = s;
      if (tasted.stream().allMatch(t -> ((t[0] & cheats) == 0 ? 0 : 1) == t[1])) sets.add(s);
    }
    return sets;
  }

  int cheats(int what) {
    if (what < 0 || what > 2) return -1;
    List<Integer> sets = possible();
    if (what == 0) return sets.size();
    if (sets.isEmpty()) return -9;
    if (what == 1) return sets.stream().reduce(-1, (a, b) -> a & b);
    return sets.stream().mapToInt(Integer::bitCount).min().getAsInt();
  }

  int taste() {
    List<Integer> sets = possible();
    if (sets.size() <= 1) return -9;
    TreeMap<Integer, Integer> leastBy = new TreeMap<>();
    for (int set = 1; set < 1 << dairies; set++) {
      int with = 0;
      int without = 0;
      for (int s : sets) {
        if ((s & set) == 0) without++;
        else with++;
      }
      leastBy.putIfAbsent(Math.max(with, without), set);
    }
    return leastBy.firstEntry().getValue();
  }

  int share(int c, int n) {
    if (c < 0 || c >= claims.size() || n < 0 || n > 999) return -1;
    int all = claims.stream().mapToInt(i -> i).sum();
    int left = n;
    List<Integer> order = new ArrayList<>();
    int[] parts = new int[claims.size()];
    for (int i = 0; i < claims.size(); i++) {
      parts[i] = n * claims.get(i) / all;
      left -= parts[i];
      order.add(i);
    }
    order.sort((i, j) -> n * claims.get(j) % all - n * claims.get(i) % all);
    for (int i = 0; i < left; i++) parts[order.get(i)]++;
    return parts[c];
  }

  // All years that some n strokes come to, n from 0 on; the fewest forward of each.
  int back(int a, int b, int u, int v, int what) {
    if (a < 0 || a > 99 || b < 0 || b > 99 || u < 1 || u > 20 || v < 1 || v > 20) return -1;
    if (what < 0 || what > 1) return -1;
    TreeMap<Integer, Integer> forward = new TreeMap<>();
    forward.put(a, 0);
    for (int n = 0; n <= 100; n++) {
      if (forward.containsKey(b)) return what == 0 ? n : forward.get(b);
      TreeMap<Integer, Integer> next = new TreeMap<>();
      for (int year : forward.keySet()) {
        if (year + u <= 99) next.merge(year + u, forward.get(year) + 1, Math::min);
        if (year - v >= 0) next.merge(year - v, forward.get(year), Math::min);
      }
      forward = next;
    }
    return -9;
  }

  // By every run of nights, thunder and none.
  int odds(int n, int x, int k, int what) {
    if (n < 0 || n > 6 || x < 0 || x > 10 || k < 0 || k > 6 || what < 0 || what > 1) return -1;
    BigInteger upper = BigInteger.ZERO;
    for (int nights = 0; nights < 1 << n; nights++) {
      if (Integer.bitCount(nights) < k) continue;
      BigInteger product = BigInteger.ONE;
      for (int i = 0; i < n; i++) {
        product = product.multiply(BigInteger.valueOf((nights & 1 << i) != 0 ? x : 10 - x));
      }
      upper = upper.add(product);
    }
    BigInteger lower = BigInteger.TEN.pow(n);
    BigInteger common = upper.gcd(lower);
    return (what == 0 ? upper : lower).divide(common).intValue();
  }

  int rate(int kind, int d) {
    if (kind < 0 || kind > 5 || d < 0 || d >= days.size()) return -1000000;
    int[] above = {-1, 0, 0, 1, 2, 0};
    int[] adds = {1, 10, 100, 1000, 10000, 100000};
    trace += adds[kind];
    int up = kind == 0 ? days.get(d)[0] : rate(above[kind], d);
    int[] rates = {up, up + days.get(d)[1], up - barn.cream, 2 * up, up + d, up + barn.salted};
    return rates[kind];
  }

  int keep(int image) {
    if (image < 0 || image > 1) return -1;
    images.put(image, barn);
    return barn.day;
  }

  int again(int image) {
    if (image < 0 || image > 1) return -1;
    if (!images.containsKey(image)) return -2;
    barn = images.get(image);
    past.clear();
    return barn.day;
  }

  int count(int what) {
    int[] all = {days.size(), works.size(), dairies, claims.size(), tasted.size(), text.length()};
    return what < 0 || what > 5 ? -1 : all[what];
  }

  long trace() {
    return trace;
  }
}
