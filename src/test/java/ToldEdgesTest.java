// Promises 5 to 8 and 28, sentence by sentence: what is told, and what is NOW.
public final class ToldEdgesTest {
  private static final int[] FAR = {32, 256, 65536, -32, Integer.MIN_VALUE, Integer.MAX_VALUE};

  public static void main(String[] args) {
    daysNone();
    daysOne();
    daysFourteen();
    daysLeastAndMost();
    dayWhat();
    daysGoneByAreTold();
    worksNone();
    worksOne();
    worksSix();
    worksLeastAndMost();
    workWhat();
    workFed();
    nowEach();
    nowBad();
    freshEach();
    freshBad();
    counts();
    countsAtMost();
    countBad();
    Due.end();
  }

  // Promise 5: "DAYS 0 .. as many as are told less 1 (14 at most)."
  private static void daysNone() {
    Used x = Due.told("w0 1 1;f1;c1;", 3);
    for (int d = -1; d <= 14; d++) {
      Due.is("no days: day(" + d + ", 0)", x.day(d, 0), ChurnedTime.BAD);
      Due.is("no days: day(" + d + ", 1)", x.day(d, 1), ChurnedTime.BAD);
    }
  }

  private static void daysOne() {
    Used x = Due.told("d7 3;", 1);
    Due.is("day(0, 0)", x.day(0, 0), 7);
    Due.is("day(0, 1)", x.day(0, 1), 3);
    Due.is("day(-1, 0)", x.day(-1, 0), ChurnedTime.BAD);
    Due.is("day(1, 0)", x.day(1, 0), ChurnedTime.BAD);
    Due.is("day(1, 1)", x.day(1, 1), ChurnedTime.BAD);
    for (int d : FAR) Due.is("day(" + d + ", 0)", x.day(d, 0), ChurnedTime.BAD);
  }

  private static void daysFourteen() {
    Used x = Due.told("d1 0;d2 1;d3 2;d4 3;d5 4;d6 5;d7 6;d8 7;d9 8;d10 9;d11 0;d12 1;d13 2;d14 3;", 14);
    for (int d = 0; d < 14; d++) {
      Due.is("hours of " + d, x.day(d, 0), d + 1);
      Due.is("warmth of " + d, x.day(d, 1), d % 10);
    }
    Due.is("day(14, 0)", x.day(14, 0), ChurnedTime.BAD);
    Due.is("day(15, 1)", x.day(15, 1), ChurnedTime.BAD);
    Due.is("day(-1, 1)", x.day(-1, 1), ChurnedTime.BAD);
  }

  // "HOURS (0 .. 24), WARMTH (0 .. 9)."
  private static void daysLeastAndMost() {
    Used x = Due.told("d0 9;d24 0;", 2);
    Due.is("least hours", x.day(0, 0), 0);
    Due.is("most warmth", x.day(0, 1), 9);
    Due.is("most hours", x.day(1, 0), 24);
    Due.is("least warmth", x.day(1, 1), 0);
  }

  // "0 HOURS, 1 WARMTH. BAD."
  private static void dayWhat() {
    Used x = Due.told("d7 3;d8 4;", 2);
    for (int d = 0; d <= 1; d++) {
      Due.is("what -1", x.day(d, -1), ChurnedTime.BAD);
      Due.is("what 2", x.day(d, 2), ChurnedTime.BAD);
      for (int what : FAR) Due.is("what " + what, x.day(d, what), ChurnedTime.BAD);
    }
    Due.is("both bad", x.day(2, 2), ChurnedTime.BAD);
  }

  private static void daysGoneByAreTold() {
    Used x = Due.told("d7 3;d8 4;", 2);
    x.stands();
    x.night();
    Due.is("behind a night", x.day(0, 0), 7);
    x.night();
    Due.is("over", x.day(0, 0), 7);
    Due.is("over", x.day(1, 1), 4);
    Due.is("the day that it is, over", x.day(2, 0), ChurnedTime.BAD);
  }

  // Promise 6: "WORKS 0 .. (6 at most)."
  private static void worksNone() {
    Used x = Due.told("d1 1;f1;c1;", 3);
    for (int w = -1; w <= 6; w++) {
      for (int what = 0; what <= 3; what++) Due.is("no works: " + w, x.work(w, what), ChurnedTime.BAD);
    }
  }

  private static void worksOne() {
    Used x = Due.told("w3 5 7;", 1);
    int[] due = {3, 5, 7, 0};
    for (int what = 0; what <= 3; what++) {
      Due.is("work(0, " + what + ")", x.work(0, what), due[what]);
      Due.is("work(-1, " + what + ")", x.work(-1, what), ChurnedTime.BAD);
      Due.is("work(1, " + what + ")", x.work(1, what), ChurnedTime.BAD);
      for (int w : FAR) Due.is("work(" + w + ", " + what + ")", x.work(w, what), ChurnedTime.BAD);
    }
  }

  private static void worksSix() {
    Used x = Due.told("w0 1 2;w1 2 4;w2 3 6;w3 4 8;w4 5 10;w5 6 12;", 6);
    for (int w = 0; w < 6; w++) {
      Due.is("due of " + w, x.work(w, 0), w);
      Due.is("pounds of " + w, x.work(w, 1), w + 1);
      Due.is("worth of " + w, x.work(w, 2), 2 * w + 2);
      Due.is("not fed is " + w, x.work(w, 3), 0);
    }
    for (int what = 0; what <= 3; what++) Due.is("work(6, " + what + ")", x.work(6, what), ChurnedTime.BAD);
  }

  // "DUE (a DAY 0 .. 13), POUNDS (1 .. 30), WORTH (0 .. 99)": of few days, too.
  private static void worksLeastAndMost() {
    Used x = Due.told("w0 1 0;w13 30 99;d1 1;", 3);
    int[] least = {0, 1, 0, 0};
    int[] most = {13, 30, 99, 0};
    for (int what = 0; what <= 3; what++) {
      Due.is("least " + what, x.work(0, what), least[what]);
      Due.is("most " + what, x.work(1, what), most[what]);
    }
  }

  private static void workWhat() {
    Used x = Due.told("w3 5 7;", 1);
    Due.is("what -1", x.work(0, -1), ChurnedTime.BAD);
    Due.is("what 4", x.work(0, 4), ChurnedTime.BAD);
    for (int what : FAR) Due.is("what " + what, x.work(0, what), ChurnedTime.BAD);
    Due.is("both bad", x.work(1, 4), ChurnedTime.BAD);
  }

  // "3 whether FED (1, 0)."
  private static void workFed() {
    Used x = Due.told("d24 5;d24 5;w9 1 1;w9 1 1;w9 1 1;w9 1 1;w9 1 1;w9 1 1;", 8);
    x.stands();
    x.night();
    x.beats(10);
    fed(x, 0, 0, 0, 0, 0, 0);
    x.feeds(5);
    fed(x, 0, 0, 0, 0, 0, 1);
    x.feeds(0);
    fed(x, 1, 0, 0, 0, 0, 1);
    x.keep(0);
    x.feeds(3);
    fed(x, 1, 0, 0, 1, 0, 1);
    Due.is("bits", x.now(8), 41);
    x.undo();
    fed(x, 1, 0, 0, 0, 0, 1);
    x.undo();
    fed(x, 0, 0, 0, 0, 0, 1);
    x.again(0);
    fed(x, 1, 0, 0, 0, 0, 1);
    Due.is("bits", x.now(8), 33);
  }

  private static void fed(Used x, int... due) {
    for (int w = 0; w < due.length; w++) Due.is("is " + w + " fed", x.work(w, 3), due[w]);
  }

  // Promise 7: each number of its own.
  private static void nowEach() {
    Used x = Due.told("d24 5;d24 5;d24 5;d23 4;d0 0;w13 1 1;w13 2 1;", 7);
    x.stands();
    x.night();
    x.beats(10);
    x.stands();
    x.night();
    x.beats(10);
    x.stands();
    x.salts(2);
    x.night();
    x.beats(5);
    x.feeds(1);
    x.quarrels(1);
    x.stands();
    int[] due = {3, 23, 12, 5, 4, 2, 0, 1, 2, 18, 10};
    for (int what = 0; what <= 10; what++) Due.is("now(" + what + ")", x.now(what), due[what]);
    x.night();
    x.night();
    int[] night = {5, 0, 23, 0, 0, 2, 4, 1, 2, 20, 10};
    for (int what = 0; what <= 10; what++) Due.is("then now(" + what + ")", x.now(what), night[what]);
  }

  private static void nowBad() {
    Used x = Due.told("d24 5;d24 5;", 2);
    x.stands();
    Due.is("now(-1)", x.now(-1), ChurnedTime.BAD);
    Due.is("now(11)", x.now(11), ChurnedTime.BAD);
    for (int what : FAR) Due.is("now(" + what + ")", x.now(what), ChurnedTime.BAD);
  }

  // Promise 8: "FRESH pounds of an age (0 .. 2)."
  private static void freshEach() {
    Used x = Due.told("d24 5;d18 5;d12 5;d0 5;d0 5;", 5);
    int[][] due = {{0, 0, 0}, {4, 0, 0}, {3, 4, 0}, {2, 3, 4}, {0, 2, 3}, {0, 0, 2}};
    int[] rancid = {0, 0, 0, 0, 4, 7};
    for (int d = 0; d <= 5; d++) {
      for (int age = 0; age <= 2; age++) Due.is("day " + d + ": fresh(" + age + ")", x.fresh(age), due[d][age]);
      Due.is("day " + d + ": all", x.now(4), due[d][0] + due[d][1] + due[d][2]);
      Due.is("day " + d + ": rancid", x.now(6), rancid[d]);
      x.stands();
      x.night();
      x.beats(10);
    }
  }

  private static void freshBad() {
    Used x = Due.told("d24 5;d24 5;", 2);
    Due.is("fresh(-1)", x.fresh(-1), ChurnedTime.BAD);
    Due.is("fresh(3)", x.fresh(3), ChurnedTime.BAD);
    for (int age : FAR) Due.is("fresh(" + age + ")", x.fresh(age), ChurnedTime.BAD);
  }

  // Promise 28: "0 DAYS, 1 WORKS, 2 DAIRIES, 3 CLAIMS, 4 TASTED, 5 letters of THE TEXT."
  private static void counts() {
    Used x = Due.told("d1 1;d2 2;w1 1 1;f5;c1;c2;c3;", 7);
    x.tasted(31, 1);
    x.tasted(1, 0);
    x.tasted(2, 0);
    x.tasted(4, 0);
    Due.type(x, "f2;c9");
    int[] due = {2, 1, 5, 3, 4, 5};
    for (int what = 0; what <= 5; what++) Due.is("count(" + what + ")", x.count(what), due[what]);
    x.forget();
    x.clear();
    int[] less = {2, 1, 5, 3, 0, 0};
    for (int what = 0; what <= 5; what++) Due.is("then count(" + what + ")", x.count(what), less[what]);
  }

  private static void countsAtMost() {
    Used x = Due.told("d1 1;d1 1;d1 1;d1 1;d1 1;d1 1;d1 1;d1 1;d1 1;d1 1;d1 1;d1 1;d1 1;d1 1;"
        + "w1 1 1;w1 1 1;w1 1 1;w1 1 1;w1 1 1;w1 1 1;f5;c1;c1;c1;c1;", 25);
    for (int i = 0; i < 6; i++) x.tasted(1, 1);
    for (int i = 0; i < 150; i++) x.type('d');
    int[] due = {14, 6, 5, 4, 6, 150};
    for (int what = 0; what <= 5; what++) Due.is("count(" + what + ")", x.count(what), due[what]);
    Due.is("one tasted more", x.tasted(1, 1), ChurnedTime.FULL);
    Due.is("one letter more", x.type('d'), ChurnedTime.FULL);
    for (int what = 0; what <= 5; what++) Due.is("still count(" + what + ")", x.count(what), due[what]);
    Due.is("a fault", x.dairy(), -11);
    for (int what = 0; what <= 5; what++) Due.is("behind a fault count(" + what + ")", x.count(what), due[what]);
  }

  private static void countBad() {
    Used x = Due.told("d1 1;", 1);
    Due.is("count(-1)", x.count(-1), ChurnedTime.BAD);
    Due.is("count(6)", x.count(6), ChurnedTime.BAD);
    for (int what : FAR) Due.is("count(" + what + ")", x.count(what), ChurnedTime.BAD);
  }
}
