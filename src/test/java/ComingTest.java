// Promises 16 and 17: COMING, MENU.
public final class ComingTest {
  public static void main(String[] args) {
    coming();
    comingLeftOver();
    comingFromNow();
    comingBad();
    menuByDays();
    menuBehindTheLastDay();
    menuLeastBits();
    menuOver();
    menuWithoutFedAndPast();
    nothingIsChanged();
    Due.end();
  }

  private static void coming() {
    Used x = Due.told("d20 5;d13 7;d9 0;d24 9;d0 0;", 5);
    int[] due = {0, 3, 5, 6, 10};
    for (int d = 0; d < 5; d++) Due.is("coming " + d, x.coming(d), due[d]);
    x.stands();
    for (int d = 0; d < 5; d++) Due.is("coming, it stands " + d, x.coming(d), due[d]);
  }

  // What is left over of the cream comes with that of the next day.
  private static void comingLeftOver() {
    Used x = Due.told("d22 5;d2 5;d7 5;d10 5;d24 5;", 5);
    int[] due = {0, 3, 4, 5, 6};
    for (int d = 0; d < 5; d++) Due.is("coming " + d, x.coming(d), due[d]);
    x = Due.told("d6 5;d1 5;d4 5;d2 5;d0 0;", 5);
    int[] less = {0, 1, 1, 1, 2};
    for (int d = 0; d < 5; d++) Due.is("coming of little " + d, x.coming(d), less[d]);
  }

  private static void comingFromNow() {
    Used x = Due.told("d24 5;d24 5;d10 9;d0 0;", 4);
    x.stands();
    x.night();
    Due.is("cream of THE DAY", x.coming(1), 4);
    x.beats(10);
    x.salts(1);
    Due.is("fresh and salted", x.coming(1), 4);
    Due.is("by day 2", x.coming(2), 8);
    x.quarrels(1);
    Due.is("strokes don't matter", x.coming(2), 8);
    Due.is("by day 3", x.coming(3), 9);
    x.night();
    Due.is("nothing stood", x.coming(2), 4);
    Due.is("by day 3 then", x.coming(3), 5);
    x.night();
    x.night();
    Due.is("rancid ones don't come", x.now(6), 3);
  }

  private static void comingBad() {
    Used x = Due.told("d24 5;d24 5;", 2);
    Due.is("coming(-1)", x.coming(-1), ChurnedTime.BAD);
    Due.is("coming(2)", x.coming(2), ChurnedTime.BAD);
    Due.is("coming(least)", x.coming(Integer.MIN_VALUE), ChurnedTime.BAD);
    Due.is("coming(most)", x.coming(Integer.MAX_VALUE), ChurnedTime.BAD);
    x.night();
    Due.is("ahead of THE DAY", x.coming(0), ChurnedTime.BAD);
    Due.is("THE DAY", x.coming(1), 0);
    x.night();
    Due.is("over", x.coming(1), ChurnedTime.BAD);
    Due.is("over", x.coming(2), ChurnedTime.BAD);
    Due.is("no days", new Used().coming(0), ChurnedTime.BAD);
  }

  private static void menu(Used x, int bits, int worth) {
    Due.is("menu(0)", x.menu(0), bits);
    Due.is("menu(1)", x.menu(1), worth);
  }

  private static void menuByDays() {
    menu(Due.told("d20 5;d13 7;d9 0;d24 9;w1 3 10;w2 4 20;w2 1 5;w3 9 50;w0 1 99;", 9), 6, 25);
    menu(Due.told("d24 5;d24 5;d0 5;w1 4 9;w2 4 9;w2 8 17;", 6), 3, 18);
    menu(Due.told("d24 5;d24 5;d0 5;w1 4 9;w2 4 9;w2 8 19;", 6), 4, 19);
    menu(Due.told("d24 5;d24 5;d0 5;w1 5 99;w2 4 9;w2 4 1;", 6), 6, 10);
    menu(Due.told("d24 5;d24 5;d0 5;w2 4 9;w1 4 8;w2 1 3;", 6), 3, 17);
    Used x = new Used();
    menu(x, 0, 0);
    Due.is("menu(2)", x.menu(2), ChurnedTime.BAD);
    Due.is("menu(-1)", x.menu(-1), ChurnedTime.BAD);
    Due.is("menu(most)", x.menu(Integer.MAX_VALUE), ChurnedTime.BAD);
  }

  private static void menuBehindTheLastDay() {
    menu(Due.told("d24 5;d24 5;w13 4 7;w2 1 1;", 4), 1, 7);
    menu(Due.told("d24 5;d24 5;w13 5 7;w2 1 1;", 4), 2, 1);
    menu(Due.told("d24 5;d24 5;w13 3 7;w2 1 1;", 4), 3, 8);
  }

  private static void menuLeastBits() {
    menu(Due.told("d24 5;d0 5;w1 4 5;w1 2 2;w1 2 3;", 5), 1, 5);
    menu(Due.told("d24 5;d0 5;w1 2 2;w1 2 3;w1 4 5;", 5), 3, 5);
    menu(Due.told("d24 5;d0 5;w1 4 5;w1 4 5;w1 1 0;", 5), 1, 5);
    menu(Due.told("d24 5;d0 5;w1 1 0;w1 1 0;", 4), 0, 0);
  }

  private static void menuOver() {
    Used x = Due.told("d24 5;d24 5;w1 1 9;w2 2 1;w9 2 3;w13 3 4;", 6);
    x.stands();
    x.night();
    x.beats(10);
    x.salts(1);
    x.stands();
    x.night();
    Due.is("cream", x.now(2), 12);
    menu(x, 6, 4);
    x.beats(10);
    menu(x, 14, 8);
    x.feeds(1);
    menu(x, 12, 7);
  }

  private static void menuWithoutFedAndPast() {
    Used x = Due.told("d24 5;d24 5;d24 5;w1 1 9;w2 3 8;w0 1 7;", 6);
    menu(x, 3, 17);
    x.stands();
    x.night();
    x.beats(10);
    menu(x, 3, 17);
    x.feeds(0);
    menu(x, 2, 8);
    x.undo();
    x.night();
    menu(x, 2, 8);
    x.feeds(1);
    menu(x, 0, 0);
  }

  private static void nothingIsChanged() {
    Used x = Due.told("d24 5;d24 5;d24 5;w1 1 9;w2 3 8;w0 1 7;", 6);
    x.stands();
    x.night();
    x.beats(3);
    String barn = Due.barn(x);
    int known = x.now(10);
    x.coming(2);
    x.menu(0);
    x.menu(1);
    Due.same("barn", Due.barn(x), barn);
    Due.is("known", x.now(10), known);
  }
}
