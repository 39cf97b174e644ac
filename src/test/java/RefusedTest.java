import java.util.function.IntFunction;
import java.util.function.ToLongFunction;

// "Refused, and nothing changes, the first of these: BAD, STATE, FULL": each refused call of each promise,
// on an object that nothing was told, on one in use, on one that is OVER, and where all is full.
public final class RefusedTest {
  private static final String TEXT =
      "d24 5;d20 7;d19 3;d24 5;d9 0;w3 1 9;w1 2 8;w13 30 99;w4 2 5;f4;c10;c20;c31;";

  public static void main(String[] args) {
    nothingTold();
    inUse();
    over();
    tenUndone();
    lettersFull();
    tastingsFull();
    faults();
    badAheadOfState();
    badAheadOfFull();
    Due.end();
  }

  // Day 3: 4 pounds fresh, 1 salted, work 1 fed, cream, a quarrel, both images kept, ten calls known.
  private static void use(Used x) {
    Due.type(x, TEXT);
    x.dairy();
    x.stands();
    x.night();
    x.beats(16);
    x.feeds(1);
    x.stands();
    x.keep(0);
    x.night();
    x.beats(17);
    x.stands();
    x.night();
    x.keep(1);
    x.beats(5);
    x.salts(1);
    x.quarrels(1);
    x.undo();
    x.quarrels(1);
    x.tasted(3, 1);
    x.tasted(8, 0);
    x.rate(4, 2);
    Due.type(x, "d7 ");
  }

  // Behind the last of two days, with cream, something salted, an image.
  private static void goBehindTheLast(Used x) {
    Due.type(x, "d24 5;d12 5;w0 1 1;w2 1 1;w13 2 2;w13 30 3;c5;");
    x.dairy();
    x.stands();
    x.night();
    x.keep(0);
    x.beats(10);
    x.salts(2);
    x.feeds(1);
    x.stands();
    x.night();
  }

  private static void quarrelOften(Used x, int times) {
    for (int i = 1; i <= times; i++) x.quarrels(i % 2);
  }

  // Numbers outside of a range: just so, by a wrap of 5, 8 or 16 bits, far off.
  private static int[] outside(int least, int most) {
    int[] wraps = {32, 256, 65536};
    int[] row = new int[4 + 2 * wraps.length];
    int filled = 0;
    row[filled++] = least - 1;
    row[filled++] = most + 1;
    row[filled++] = Integer.MIN_VALUE;
    row[filled++] = Integer.MAX_VALUE;
    for (int wrap : wraps) {
      row[filled++] = least + wrap > most ? least + wrap : most + wrap;
      row[filled++] = most - wrap < least ? most - wrap : least - wrap;
    }
    return row;
  }

  private static void bad(Twins t, String call, int least, int most, IntFunction<ToLongFunction<Used>> ask) {
    for (int n : outside(least, most)) t.bad(call.replace("#", "" + n), ask.apply(n));
  }

  // Numbers that no object takes, whatever it is told.
  private static void badAlways(Twins t) {
    bad(t, "type(#)", 0, 255, n -> x -> x.type(n));
    bad(t, "now(#)", 0, 10, n -> x -> x.now(n));
    bad(t, "fresh(#)", 0, 2, n -> x -> x.fresh(n));
    bad(t, "beats(#)", 1, 99, n -> x -> x.beats(n));
    bad(t, "salts(#)", 1, 99, n -> x -> x.salts(n));
    bad(t, "quarrels(#)", 0, 1, n -> x -> x.quarrels(n));
    bad(t, "menu(#)", 0, 1, n -> x -> x.menu(n));
    bad(t, "tasted(1, #)", 0, 1, n -> x -> x.tasted(1, n));
    bad(t, "cheats(#)", 0, 2, n -> x -> x.cheats(n));
    bad(t, "back(#, 0, 1, 1, 0)", 0, 99, n -> x -> x.back(n, 0, 1, 1, 0));
    bad(t, "back(0, #, 1, 1, 0)", 0, 99, n -> x -> x.back(0, n, 1, 1, 0));
    bad(t, "back(0, 0, #, 1, 0)", 1, 20, n -> x -> x.back(0, 0, n, 1, 0));
    bad(t, "back(0, 0, 1, #, 0)", 1, 20, n -> x -> x.back(0, 0, 1, n, 0));
    bad(t, "back(0, 0, 1, 1, #)", 0, 1, n -> x -> x.back(0, 0, 1, 1, n));
    bad(t, "odds(#, 1, 1, 0)", 0, 6, n -> x -> x.odds(n, 1, 1, 0));
    bad(t, "odds(1, #, 1, 0)", 0, 10, n -> x -> x.odds(1, n, 1, 0));
    bad(t, "odds(1, 1, #, 0)", 0, 6, n -> x -> x.odds(1, 1, n, 0));
    bad(t, "odds(1, 1, 1, #)", 0, 1, n -> x -> x.odds(1, 1, 1, n));
    bad(t, "keep(#)", 0, 1, n -> x -> x.keep(n));
    bad(t, "again(#)", 0, 1, n -> x -> x.again(n));
    bad(t, "count(#)", 0, 5, n -> x -> x.count(n));
  }

  // Numbers that hang on what is told, and on THE DAY.
  private static void badAsTold(Twins t, int days, int works, int claims, int dairies, int theDay) {
    bad(t, "day(#, 0)", 0, days - 1, n -> x -> x.day(n, 0));
    bad(t, "day(#, 1)", 0, days - 1, n -> x -> x.day(n, 1));
    bad(t, "day(0, #)", 0, 1, n -> x -> x.day(0, n));
    for (int what = 0; what <= 3; what++) {
      int part = what;
      bad(t, "work(#, " + part + ")", 0, works - 1, n -> x -> x.work(n, part));
    }
    bad(t, "work(0, #)", 0, 3, n -> x -> x.work(0, n));
    bad(t, "feeds(#)", 0, works - 1, n -> x -> x.feeds(n));
    bad(t, "coming(#)", theDay, days - 1, n -> x -> x.coming(n));
    bad(t, "tasted(#, 0)", 1, (1 << dairies) - 1, n -> x -> x.tasted(n, 0));
    bad(t, "share(#, 5)", 0, claims - 1, n -> x -> x.share(n, 5));
    bad(t, "share(0, #)", 0, 999, n -> x -> x.share(0, n));
    for (int kind = 0; kind <= 5; kind++) {
      int of = kind;
      for (int d : outside(0, days - 1)) {
        t.refuses("rate(" + of + ", " + d + ")", ChurnedTime.NO, x -> x.rate(of, d));
      }
    }
    for (int of : outside(0, 5)) t.refuses("rate(" + of + ", 0)", ChurnedTime.NO, x -> x.rate(of, 0));
  }

  private static void nothingTold() {
    Twins t = new Twins("nothing told", x -> { });
    badAlways(t);
    badAsTold(t, 0, 0, 0, 3, 0);
    for (int d : new int[] {0, 1, 13}) {
      t.bad("day", x -> x.day(d, 0)).bad("coming", x -> x.coming(d));
      t.refuses("rate", ChurnedTime.NO, x -> x.rate(0, d));
    }
    for (int w : new int[] {0, 1, 5}) t.bad("work", x -> x.work(w, 0)).bad("feeds", x -> x.feeds(w));
    for (int c : new int[] {0, 1, 3}) t.bad("share", x -> x.share(c, 0));
    t.state("stands()", Used::stands).state("night()", Used::night).state("undo()", Used::undo);
    t.state("beats(1)", x -> x.beats(1)).state("beats(99)", x -> x.beats(99));
    t.state("salts(1)", x -> x.salts(1)).state("salts(99)", x -> x.salts(99));
    t.state("quarrels(0)", x -> x.quarrels(0));
    t.state("again(0)", x -> x.again(0)).state("again(1)", x -> x.again(1));
  }

  private static void inUse() {
    Used x = new Used();
    use(x);
    Due.same("in use", Due.barn(x), "3 0 10 5 4 1 0 1 2 15 0 3 1 ");
    Due.is("known", x.now(10), 10);
    Twins t = new Twins("in use", RefusedTest::use);
    badAlways(t);
    badAsTold(t, 5, 4, 3, 4, 3);
    t.state("salts(5)", y -> y.salts(5)).state("salts(99)", y -> y.salts(99));
    t.state("quarrels(1)", y -> y.quarrels(1));
    t.state("feeds(1), FED", y -> y.feeds(1)).state("feeds(2), too many", y -> y.feeds(2));
    stood();
    withoutCream();
    oneImageKept();
  }

  private static void stood() {
    new Twins("it stands", x -> {
      use(x);
      x.stands();
    }).state("stands()", Used::stands);
    new Twins("none stand", x -> {
      Due.told("d1 1;", 1);
      Due.type(x, "d0 5;d5 5;");
      x.dairy();
      x.stands();
    }).state("stands(), 0 hours", Used::stands).state("beats(1)", x -> x.beats(1));
  }

  private static void withoutCream() {
    Twins t = new Twins("all cream has come", x -> {
      Due.type(x, "d24 5;d24 5;w0 1 1;w9 5 1;");
      x.dairy();
      x.stands();
      x.night();
      x.beats(10);
      x.stands();
    });
    t.state("beats(1)", x -> x.beats(1)).state("beats(99)", x -> x.beats(99));
    t.state("salts(5)", x -> x.salts(5)).state("quarrels(0)", x -> x.quarrels(0));
    t.state("feeds(0), past its DUE", x -> x.feeds(0)).state("feeds(1), one too many", x -> x.feeds(1));
    t.state("again(0)", x -> x.again(0)).state("again(1)", x -> x.again(1));
  }

  private static void oneImageKept() {
    for (int kept = 0; kept <= 1; kept++) {
      int image = kept;
      new Twins("image " + image + " is kept", x -> {
        Due.type(x, "d24 5;d24 5;");
        x.dairy();
        x.stands();
        x.keep(image);
        x.night();
      }).state("again of the other", x -> x.again(1 - image));
    }
  }

  private static void over() {
    Used x = new Used();
    goBehindTheLast(x);
    Due.same("over", Due.barn(x), "2 0 6 0 1 2 0 0 2 10 0 1 0 ");
    Twins t = new Twins("over", RefusedTest::goBehindTheLast);
    badAlways(t);
    badAsTold(t, 2, 4, 1, 3, 2);
    for (int d = 0; d <= 2; d++) {
      int by = d;
      t.bad("coming(" + by + ")", y -> y.coming(by));
    }
    t.state("stands()", Used::stands).state("night()", Used::night);
    t.state("salts(2)", y -> y.salts(2)).state("quarrels(0)", y -> y.quarrels(0));
    t.state("feeds(0), past", y -> y.feeds(0)).state("feeds(1), FED", y -> y.feeds(1));
    t.state("feeds(3), too many", y -> y.feeds(3)).state("again(1)", y -> y.again(1));
  }

  // What is refused pushes no call out of the ten that are known.
  private static void tenUndone() {
    Twins t = new Twins("ten known", x -> {
      Due.type(x, "d24 5;d24 5;w0 1 1;w1 30 1;");
      x.dairy();
      x.stands();
      x.night();
      x.beats(10);
      quarrelOften(x, 9);
      x.stands();
    });
    t.state("stands()", Used::stands).state("beats(5)", x -> x.beats(5)).bad("beats(0)", x -> x.beats(0));
    t.state("salts(5)", x -> x.salts(5)).bad("salts(0)", x -> x.salts(0));
    t.state("quarrels(1)", x -> x.quarrels(1)).bad("quarrels(2)", x -> x.quarrels(2));
    t.state("feeds(0)", x -> x.feeds(0)).state("feeds(1)", x -> x.feeds(1)).bad("feeds(2)", x -> x.feeds(2));
    t.state("again(0)", x -> x.again(0)).bad("again(2)", x -> x.again(2));
    Twins end = new Twins("ten known, over", x -> {
      Due.type(x, "d24 5;");
      x.dairy();
      quarrelOften(x, 11);
      x.night();
    });
    end.state("stands()", Used::stands).state("night()", Used::night).state("beats(9)", x -> x.beats(9));
  }

  private static void lettersFull() {
    Twins blank = new Twins("150 blanks", x -> {
      for (int i = 0; i < 150; i++) x.type(' ');
    });
    Twins told = new Twins("150 letters that tell", x -> {
      Due.type(x, "d24 5;d23 4;w1 2 3;f5;c7;c8;");
      for (int i = 28; i < 150; i++) x.type(' ');
    });
    for (int letter : new int[] {0, ' ', ';', 'c', '0', 255}) {
      blank.full("type(" + letter + ")", x -> x.type(letter));
      told.full("type(" + letter + ")", x -> x.type(letter));
    }
  }

  private static void tastingsFull() {
    Twins t = new Twins("six tasted", x -> {
      for (int i = 1; i <= 6; i++) x.tasted(i, 1);
    });
    for (int set = 1; set <= 7; set++) {
      int of = set;
      t.full("tasted(" + of + ", 0)", x -> x.tasted(of, 0)).full("tasted(" + of + ", 1)", x -> x.tasted(of, 1));
    }
  }

  // A FAULT is refused, too: nothing changes, THE TEXT stays.
  private static void faults() {
    fault("d1 1;f1;c1;w1 1 1;w", 19);
    fault("f5;d25 0;", 4);
    fault("x", 0);
    fault("d0 0;;", 5);
    fault("c1;c2;c3;c4;c", 12);
    new Twins("fault in use", RefusedTest::use).refuses("dairy()", -10 - 3, Used::dairy);
  }

  private static void fault(String text, int place) {
    new Twins("fault in " + text, x -> {
      use(x);
      x.clear();
      Due.type(x, text);
    }).refuses("dairy()", -10 - place, Used::dairy);
  }

  private static void badAheadOfState() {
    Used x = new Used();
    Due.is("no cream: beats(0)", x.beats(0), ChurnedTime.BAD);
    Due.is("no cream: beats(100)", x.beats(100), ChurnedTime.BAD);
    Due.is("none fresh: salts(0)", x.salts(0), ChurnedTime.BAD);
    Due.is("none fresh: salts(100)", x.salts(100), ChurnedTime.BAD);
    Due.is("no quarrel: quarrels(-1)", x.quarrels(-1), ChurnedTime.BAD);
    Due.is("no work: feeds(0)", x.feeds(0), ChurnedTime.BAD);
    Due.is("none kept: again(-1)", x.again(-1), ChurnedTime.BAD);
    Due.is("none kept: again(2)", x.again(2), ChurnedTime.BAD);
  }

  private static void badAheadOfFull() {
    Used x = new Used();
    for (int i = 0; i < 150; i++) x.type(' ');
    for (int i = 0; i < 6; i++) x.tasted(7, 1);
    Due.is("full: type(-1)", x.type(-1), ChurnedTime.BAD);
    Due.is("full: type(256)", x.type(256), ChurnedTime.BAD);
    Due.is("full: tasted(0, 1)", x.tasted(0, 1), ChurnedTime.BAD);
    Due.is("full: tasted(8, 1)", x.tasted(8, 1), ChurnedTime.BAD);
    Due.is("full: tasted(7, -1)", x.tasted(7, -1), ChurnedTime.BAD);
    Due.is("full: tasted(7, 2)", x.tasted(7, 2), ChurnedTime.BAD);
  }
}
