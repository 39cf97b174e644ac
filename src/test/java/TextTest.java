// Promises 1 to 6 and 28: a new object, THE TEXT, what it tells.
public final class TextTest {
  public static void main(String[] args) {
    newObject();
    letters();
    full();
    items();
    blanks();
    faults();
    mostOfEach();
    tokensGluedTogether();
    faultChangesNothing();
    readAnew();
    readOftenAnew();
    barnAnew();
    dayAndWork();
    Due.end();
  }

  private static void newObject() {
    Used x = new Used();
    int[] counts = {0, 0, 3, 0, 0, 0};
    for (int what = 0; what < 6; what++) Due.is("new count " + what, x.count(what), counts[what]);
    Due.is("count(-1)", x.count(-1), ChurnedTime.BAD);
    Due.is("count(6)", x.count(6), ChurnedTime.BAD);
    Due.same("new barn", Due.barn(x), "0 0 0 0 0 0 0 0 0 0 0 0 0 ");
    Due.is("new now(10)", x.now(10), 0);
    Due.is("new trace", x.trace(), 0);
    Due.is("new day", x.day(0, 0), ChurnedTime.BAD);
    Due.is("new work", x.work(0, 0), ChurnedTime.BAD);
    Due.is("new share", x.share(0, 0), ChurnedTime.BAD);
    Due.is("new again", x.again(0), ChurnedTime.STATE);
    Due.is("new again", x.again(1), ChurnedTime.STATE);
    Due.is("new undo", x.undo(), ChurnedTime.STATE);
  }

  private static void letters() {
    Used x = new Used();
    Due.is("clear of none", x.clear(), 0);
    Due.is("type(0)", x.type(0), 1);
    Due.is("type(255)", x.type(255), 2);
    Due.is("type(-1)", x.type(-1), ChurnedTime.BAD);
    Due.is("type(256)", x.type(256), ChurnedTime.BAD);
    Due.is("type(least)", x.type(Integer.MIN_VALUE), ChurnedTime.BAD);
    Due.is("type(most)", x.type(Integer.MAX_VALUE), ChurnedTime.BAD);
    Due.is("count(5)", x.count(5), 2);
    Due.is("clear", x.clear(), 2);
    Due.is("count(5) behind clear", x.count(5), 0);
    Due.is("clear again", x.clear(), 0);
    Due.is("type behind clear", x.type(100), 1);
  }

  private static void full() {
    Used x = new Used();
    for (int i = 1; i <= 150; i++) Due.is("type " + i, x.type(32), i);
    Due.is("type 151", x.type(32), ChurnedTime.FULL);
    Due.is("type bad when full", x.type(256), ChurnedTime.BAD);
    Due.is("count when full", x.count(5), 150);
    Due.is("150 blanks", x.dairy(), 0);
    Due.is("empty behind dairy", x.count(5), 0);
    for (int i = 1; i <= 150; i++) x.type('d');
    Due.is("150 times d", x.dairy(), -11);
    Due.is("clear when full", x.clear(), 150);
    for (int i = 0; i < 149; i++) x.type(32);
    x.type('c');
    Due.is("150 letters, too early an end", x.dairy(), -160);
  }

  private static void items() {
    Used x = Due.told("d20 5;d13 7;w1 3 10;f4;c10;c20;c99;", 7);
    int[] counts = {2, 1, 4, 3, 0, 0};
    for (int what = 0; what < 6; what++) Due.is("count " + what, x.count(what), counts[what]);
    Due.is("dairy of nothing", x.dairy(), 0);
    int[] first = {0, 0, 3, 0, 0, 0};
    for (int what = 0; what < 6; what++) Due.is("count behind nothing " + what, x.count(what), first[what]);
  }

  private static void blanks() {
    Used x = Due.told("  d  7   3 ; w 1 2  3;f 5 ;c9; ", 4);
    Due.is("hours", x.day(0, 0), 7);
    Due.is("warmth", x.day(0, 1), 3);
    Due.is("due", x.work(0, 0), 1);
    Due.is("pounds", x.work(0, 1), 2);
    Due.is("worth", x.work(0, 2), 3);
    Due.is("dairies", x.count(2), 5);
    Due.is("share", x.share(0, 4), 4);
  }

  private static void fault(String text, int place) {
    Used x = new Used();
    Due.type(x, text);
    Due.is("dairy of \"" + text + "\"", x.dairy(), -10 - place);
    Due.is("letters of \"" + text + "\"", x.count(5), text.length());
  }

  private static void faults() {
    fault("d25 0;", 1);
    fault("d24 10;", 4);
    fault("d0;", 2);
    fault("d0 0 0;", 5);
    fault("d0 0", 4);
    fault("d0", 2);
    fault("d", 1);
    fault("d ", 2);
    fault("d0 0;d", 6);
    fault(";", 0);
    fault("d0 0;;", 5);
    fault("5", 0);
    fault("  5", 2);
    fault("x", 0);
    fault("D0 0;", 0);
    fault("dd", 1);
    fault("d5w", 2);
    fault("d5x", 2);
    fault("d 05 3;", 2);
    fault("d 00 3;", 2);
    fault("d 0 003;", 4);
    fault("d 5 100;", 4);
    fault("d 1 2 100;", 6);
    fault("d100 x;", 1);
    fault("w14 1 0;", 1);
    fault("w13 0 0;", 4);
    fault("w13 31 0;", 4);
    fault("w13 30 100;", 7);
    fault("w13 30 99 1;", 10);
    fault("w13 30;", 6);
    fault("f0;", 1);
    fault("f6;", 1);
    fault("f5 1;", 3);
    fault("f;", 1);
    fault("f3;f3;", 3);
    fault("f3; d1 1; f 3;", 10);
    fault("c0;", 1);
    fault("c100;", 1);
    fault("c99999999999;", 1);
    fault("c4294967297;", 1);
    fault("c18446744073709551617;", 1);
    fault("c1;c1;c1;c1;c1;", 12);
    fault("c1 2;", 3);
    fault("c-1;", 1);
    fault("c1\t;", 2);
    fault("c1\u00e9;", 2);
    fault("c1\u00a0;", 2);
    fault("\u0000", 0);
    fault("w0 1 1;w0 1 1;w0 1 1;w0 1 1;w0 1 1;w0 1 1;w", 42);
    fault("d0 0;d0 0;d0 0;d0 0;d0 0;d0 0;d0 0;d0 0;d0 0;d0 0;d0 0;d0 0;d0 0;d0 0; d", 71);
    fault("c5;x d99 0", 3);
    fault("c5; d99 x", 5);
  }

  private static void mostOfEach() {
    Due.told("d24 9;d0 0;d0 0;d0 0;d0 0;d0 0;d0 0;d0 0;d0 0;d0 0;d0 0;d0 0;d0 0;d24 9;", 14);
    Due.told("w13 30 99;w0 1 0;w0 1 1;w0 1 1;w0 1 1;w0 1 1;f5;c1;c99;c1;c1;", 11);
    Due.is("f1", Due.told("f1;", 1).count(2), 1);
    Due.is("f5", Due.told("f5;", 1).count(2), 5);
    Used x = Due.told("d1 2;d3 4;d5 6;d7 8;d9 0;d11 1;d13 2;d15 3;d17 4;d19 5;d21 6;d23 7;d24 8;d0 9;", 14);
    for (int d = 0; d < 12; d++) Due.is("hours of " + d, x.day(d, 0), 2 * d + 1);
    Due.is("hours of 13", x.day(13, 0), 0);
    Due.is("warmth of 13", x.day(13, 1), 9);
    Due.is("hours of 14", x.day(14, 0), ChurnedTime.BAD);
  }

  private static void tokensGluedTogether() {
    Used x = Due.told("c7;w13 30 99;d24 9;f1;", 4);
    Due.is("items in any order, days", x.count(0), 1);
    Due.is("items in any order, works", x.count(1), 1);
    Due.is("items in any order, dairies", x.count(2), 1);
    Due.is("items in any order, claims", x.count(3), 1);
    fault("d249;", 1);
  }

  private static void faultChangesNothing() {
    Used x = Due.told("d20 5;d8 2;w1 1 9;f4;c3;c4;", 6);
    x.stands();
    x.night();
    x.beats(5);
    x.tasted(3, 1);
    x.keep(1);
    x.quarrels(1);
    String barn = Due.barn(x);
    int undone = x.now(10);
    Due.type(x, "d1 1;f1;c1;w1 1 1;w");
    Due.is("dairy", x.dairy(), -29);
    Due.is("dairy once more", x.dairy(), -29);
    Due.same("barn behind a fault", Due.barn(x), barn);
    Due.is("undo behind a fault", x.now(10), undone);
    int[] counts = {2, 1, 4, 2, 1, 19};
    for (int what = 0; what < 6; what++) Due.is("count behind a fault " + what, x.count(what), counts[what]);
    Due.is("day behind a fault", x.day(0, 0), 20);
    Due.is("work behind a fault", x.work(0, 2), 9);
    Due.is("share behind a fault", x.share(1, 7), 4);
    Due.is("image behind a fault", x.again(1), 1);
    Due.type(x, "1 2 3;");
    Due.is("the text goes on", x.dairy(), 5);
    Due.is("works", x.count(1), 2);
  }

  private static void readAnew() {
    Used x = Due.told("d20 5;d8 2;w1 1 9;f4;c3;c4;", 6);
    x.stands();
    x.night();
    x.beats(19);
    x.feeds(0);
    x.salts(1);
    x.stands();
    x.quarrels(1);
    x.tasted(8, 1);
    x.keep(0);
    x.keep(1);
    x.rate(1, 0);
    Due.type(x, "d2 2;w0 2 2;");
    Due.is("read anew", x.dairy(), 2);
    Due.same("barn read anew", Due.barn(x), "0 0 0 0 0 0 0 0 0 0 0 0 0 ");
    int[] counts = {1, 1, 3, 0, 0, 0};
    for (int what = 0; what < 6; what++) Due.is("count read anew " + what, x.count(what), counts[what]);
    Due.is("undo read anew", x.undo(), ChurnedTime.STATE);
    Due.is("now(10) read anew", x.now(10), 0);
    Due.is("again(0) read anew", x.again(0), ChurnedTime.STATE);
    Due.is("again(1) read anew", x.again(1), ChurnedTime.STATE);
    Due.is("trace goes on", x.trace(), 11);
    Due.is("stands read anew", x.stands(), 2);
    Due.is("day 1 read anew", x.day(1, 0), ChurnedTime.BAD);
    Due.is("work 0 read anew", x.work(0, 3), 0);
    Due.is("pounds read anew", x.work(0, 1), 2);
  }

  private static void counts(Used x, String text, int items, int... due) {
    x.clear();
    Due.type(x, text);
    Due.is("dairy of " + text, x.dairy(), items);
    for (int what = 0; what < due.length; what++) Due.is("count " + what + " of " + text, x.count(what), due[what]);
  }

  private static void readOftenAnew() {
    Used x = new Used();
    counts(x, "d1 1;d2 2;w1 1 1;f5;c1;c2;", 6, 2, 1, 5, 2);
    counts(x, "c9;", 1, 0, 0, 3, 1);
    counts(x, "d3 3;", 1, 1, 0, 3, 0);
    Due.is("hours", x.day(0, 0), 3);
    counts(x, "f2;w1 2 3;", 2, 0, 1, 2, 0);
    counts(x, "d1 1;d2 2;w1 1 1;f5;c1;c2;x", -36, 0, 1, 2, 0);
    counts(x, "f1;", 1, 0, 0, 1, 0);
    counts(x, "d1 1;f4;c1;w", -22, 0, 0, 1, 0);
    counts(x, "w1 2 3;", 1, 0, 1, 3, 0);
    counts(x, "", 0, 0, 0, 3, 0);
  }

  private static void barnAnew() {
    Used x = Due.told("d24 5;d24 5;d0 5;d0 5;d0 5;", 5);
    x.stands();
    x.night();
    x.beats(10);
    x.stands();
    for (int i = 0; i < 3; i++) x.night();
    x.beats(7);
    Due.same("ahead", Due.barn(x), "4 0 12 7 0 0 4 0 0 3 0 0 0 ");
    Due.is("nothing told", x.dairy(), 0);
    Due.same("barn anew", Due.barn(x), "0 0 0 0 0 0 0 0 0 0 0 0 0 ");
  }

  private static void dayAndWork() {
    Used x = Due.told("d20 5;d8 2;w1 3 9;w13 30 0;", 4);
    Due.is("day(0, 0)", x.day(0, 0), 20);
    Due.is("day(0, 1)", x.day(0, 1), 5);
    Due.is("day(1, 0)", x.day(1, 0), 8);
    Due.is("day(1, 1)", x.day(1, 1), 2);
    int[] off = {-1, 2, 14, Integer.MIN_VALUE, Integer.MAX_VALUE};
    for (int d : off) Due.is("day " + d, x.day(d, 0), ChurnedTime.BAD);
    for (int w : off) Due.is("work " + w, x.work(w, 0), ChurnedTime.BAD);
    for (int what : off) Due.is("day what " + what, x.day(0, what), ChurnedTime.BAD);
    int[] first = {1, 3, 9, 0};
    int[] second = {13, 30, 0, 0};
    for (int what = 0; what < 4; what++) {
      Due.is("work 0 " + what, x.work(0, what), first[what]);
      Due.is("work 1 " + what, x.work(1, what), second[what]);
    }
    Due.is("work what 4", x.work(0, 4), ChurnedTime.BAD);
    Due.is("work what -1", x.work(0, -1), ChurnedTime.BAD);
    x.stands();
    x.night();
    x.beats(19);
    Due.is("feeds", x.feeds(0), 0);
    Due.is("work 0 fed", x.work(0, 3), 1);
    Due.is("work 1 not fed", x.work(1, 3), 0);
  }
}
