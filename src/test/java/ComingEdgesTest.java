// Promises 16 and 17, sentence by sentence: COMING, MENU.
public final class ComingEdgesTest {
  private static final int BAD = ChurnedTime.BAD;

  public static void main(String[] args) {
    comingFromTheDayToTheLast();
    comingBad();
    comingOver();
    comingHalfCut();
    comingLeftOver();
    comingOfTheDay();
    comingStoodAlready();
    comingFreshAndSalted();
    comingRancid();
    comingByAnyStrokes();
    comingOfFourteenDays();
    menuBad();
    menuOfNothing();
    menuOfAllSix();
    menuJustAsMany();
    menuUpToEachDay();
    menuOnADay();
    menuBehindTheLastDay();
    menuOver();
    menuWithoutFed();
    menuWithoutPast();
    menuMostWorth();
    menuLeastBits();
    menuOfNoWorth();
    nothingIsChanged();
    Due.end();
  }

  // Promise 16: "COMING. BAD (THE DAY .. the last one)."
  private static void comingFromTheDayToTheLast() {
    Used x = Due.told("d24 5;d24 5;d24 5;", 3);
    int[] due = {0, 4, 8};
    for (int day = 0; day < 3; day++) {
      for (int d = 0; d < 3; d++) {
        Due.is("on " + day + ": coming(" + d + ")", x.coming(d), d < day ? BAD : due[d]);
      }
      Due.is("on " + day + ": behind the last", x.coming(3), BAD);
      Due.is("on " + day + ": -1", x.coming(-1), BAD);
      x.stands();
      x.night();
      x.beats(10);
    }
  }

  private static void comingBad() {
    Used x = Due.told("d24 5;d24 5;", 2);
    for (int d : new int[] {-1, 2, 13, 14, 256, 65536, -256, Integer.MIN_VALUE, Integer.MAX_VALUE}) {
      Due.is("coming(" + d + ")", x.coming(d), BAD);
    }
    Used none = Due.told("w1 1 1;", 1);
    for (int d = -1; d <= 14; d++) Due.is("no days: coming(" + d + ")", none.coming(d), BAD);
    Used one = Due.told("d24 5;", 1);
    Due.is("the only day", one.coming(0), 0);
    Due.is("behind it", one.coming(1), BAD);
  }

  private static void comingOver() {
    Used x = Due.told("d24 5;d24 5;", 2);
    x.stands();
    x.night();
    x.beats(10);
    x.night();
    for (int d = -1; d <= 3; d++) Due.is("over: coming(" + d + ")", x.coming(d), BAD);
  }

  // What STOOD is half CREAM, cut.
  private static void comingHalfCut() {
    int[] hours = {0, 1, 5, 6, 7, 11, 12, 13, 17, 18, 23, 24};
    int[] due = {0, 0, 0, 1, 1, 1, 2, 2, 2, 3, 3, 4};
    for (int i = 0; i < hours.length; i++) {
      Used x = Due.told("d" + hours[i] + " 5;d0 5;", 2);
      Due.is("of " + hours[i] + ", on the day", x.coming(0), 0);
      Due.is("of " + hours[i] + ", the next day", x.coming(1), due[i]);
    }
  }

  // CREAM that is left over comes with that of the next days.
  private static void comingLeftOver() {
    Used x = Due.told("d4 5;d2 5;d2 5;d10 5;d0 5;d2 5;d0 5;", 7);
    int[] due = {0, 0, 1, 1, 3, 3, 3};
    for (int d = 0; d < 7; d++) Due.is("coming(" + d + ")", x.coming(d), due[d]);
    Used y = Due.told("d10 5;d10 5;d10 5;d10 5;d0 5;", 5);
    int[] more = {0, 1, 3, 5, 6};
    for (int d = 0; d < 5; d++) Due.is("coming(" + d + ") of more", y.coming(d), more[d]);
  }

  // "All CREAM is beaten each DAY till it COMES (THE DAY, too)."
  private static void comingOfTheDay() {
    Used x = Due.told("d24 5;d0 5;d0 5;", 3);
    x.stands();
    x.night();
    Due.is("THE DAY, too", x.coming(1), 4);
    Due.is("the next", x.coming(2), 4);
    x.beats(9);
    Due.is("strokes beaten don't matter", x.coming(1), 4);
    x.beats(1);
    Due.is("it came", x.coming(1), 4);
  }

  // "HOURS of all DAYS from THE DAY on are STOOD (of THE DAY, if they are not)": once, that is.
  private static void comingStoodAlready() {
    Used x = Due.told("d24 5;d18 5;d0 5;", 3);
    int[] due = {0, 4, 7};
    for (int d = 0; d < 3; d++) Due.is("not stood: " + d, x.coming(d), due[d]);
    x.stands();
    for (int d = 0; d < 3; d++) Due.is("stood: " + d, x.coming(d), due[d]);
    x.night();
    Due.is("stood the day ahead", x.coming(2), 7);
    Used y = Due.told("d24 5;d18 5;d0 5;", 3);
    y.night();
    Due.is("not stood the day ahead", y.coming(1), 0);
    Due.is("not stood the day ahead", y.coming(2), 3);
  }

  // "FRESH, SALTED pounds NOW."
  private static void comingFreshAndSalted() {
    Used x = Due.told("d24 5;d24 5;d18 5;d0 5;w13 1 1;", 5);
    x.stands();
    x.night();
    x.beats(10);
    Due.is("fresh", x.coming(1), 4);
    x.salts(3);
    Due.is("salted", x.coming(1), 4);
    x.feeds(0);
    Due.is("fed are gone", x.coming(1), 3);
    x.stands();
    x.night();
    x.beats(10);
    Due.is("of all", x.coming(2), 7);
    Due.is("and those that come", x.coming(3), 10);
  }

  // Rancid pounds don't come; those that would be are salted at once.
  private static void comingRancid() {
    Used x = Due.told("d24 5;d0 5;d0 5;d0 5;d0 5;d0 5;", 6);
    x.stands();
    x.night();
    x.beats(10);
    for (int d = 1; d < 6; d++) Due.is("salted at once: " + d, x.coming(d), 4);
    x.night();
    x.night();
    Due.is("of age 2", x.fresh(2), 4);
    Due.is("the last fresh day", x.coming(3), 4);
    Due.is("salted at once", x.coming(5), 4);
    x.night();
    Due.is("rancid", x.coming(4), 0);
    Due.is("rancid", x.coming(5), 0);
  }

  private static void comingByAnyStrokes() {
    Used x = Due.told("d24 0;d24 9;d24 5;", 3);
    Due.is("by any warmth", x.coming(2), 8);
    x.quarrels(1);
    Due.is("in a quarrel", x.coming(2), 8);
  }

  private static void comingOfFourteenDays() {
    Used x = Due.told("d24 5;d24 5;d24 5;d24 5;d24 5;d24 5;d24 5;d24 5;d24 5;d24 5;d24 5;d24 5;d24 5;d24 5;", 14);
    for (int d = 0; d < 14; d++) Due.is("coming(" + d + ")", x.coming(d), 4 * d);
    Due.is("coming(14)", x.coming(14), BAD);
    for (int d = 0; d < 13; d++) {
      x.stands();
      x.night();
    }
    Due.is("all at once", x.coming(13), 52);
    Due.is("the day ahead", x.coming(12), BAD);
  }

  // Promise 17: "MENU: which (what = 0, bits), WORTH (1). BAD."
  private static void menuBad() {
    Used x = Due.told("d24 5;d24 5;w1 1 9;", 3);
    Due.is("menu(0)", x.menu(0), 1);
    Due.is("menu(1)", x.menu(1), 9);
    for (int what : new int[] {-1, 2, 256, 257, Integer.MIN_VALUE, Integer.MAX_VALUE}) {
      Due.is("menu(" + what + ")", x.menu(what), BAD);
    }
  }

  private static void menu(String when, Used x, int bits, int worth) {
    Due.is(when + ": menu(0)", x.menu(0), bits);
    Due.is(when + ": menu(1)", x.menu(1), worth);
  }

  private static void menuOfNothing() {
    menu("nothing told", new Used(), 0, 0);
    menu("no works", Due.told("d24 5;d24 5;", 2), 0, 0);
    menu("no days", Due.told("w13 1 9;", 1), 0, 0);
    menu("nothing comes", Due.told("d24 5;w0 1 9;w13 1 9;", 3), 0, 0);
  }

  private static void menuOfAllSix() {
    menu("all six", Due.told("d24 5;d24 5;d0 5;w1 1 99;w1 1 99;w1 1 99;w1 1 99;w2 2 99;w2 2 99;", 9), 63, 594);
    menu("five of six", Due.told("d24 5;d24 5;d0 5;w1 1 99;w1 1 99;w1 1 99;w1 1 99;w2 2 98;w2 3 99;", 9), 47, 495);
    menu("the last of six", Due.told("d24 5;d0 5;w1 5 9;w1 5 9;w1 5 9;w1 5 9;w1 5 9;w1 4 1;", 8), 32, 1);
  }

  // "Are no more POUNDS together than are COMING by it."
  private static void menuJustAsMany() {
    menu("just as many", Due.told("d24 5;d0 5;w1 4 9;", 3), 1, 9);
    menu("one more", Due.told("d24 5;d0 5;w1 5 9;", 3), 0, 0);
    menu("two, just as many", Due.told("d24 5;d0 5;w1 2 9;w1 2 9;", 4), 3, 18);
    menu("two, one more", Due.told("d24 5;d0 5;w1 2 9;w1 3 9;", 4), 1, 9);
  }

  // "Up to each DAY those DUE up to it."
  private static void menuUpToEachDay() {
    menu("an early one and a late one", Due.told("d24 5;d24 5;d0 5;w1 4 5;w2 4 5;", 5), 3, 10);
    menu("too much early", Due.told("d24 5;d24 5;d0 5;w1 5 5;w2 3 5;", 5), 2, 5);
    menu("too much up to the late one", Due.told("d24 5;d24 5;d0 5;w1 4 5;w2 5 6;", 5), 2, 6);
    menu("a late one told first", Due.told("d24 5;d24 5;d0 5;w2 4 5;w1 4 5;", 5), 3, 10);
    menu("on three days", Due.told("d24 5;d24 5;d24 5;d0 5;w3 4 5;w1 3 5;w2 5 5;", 7), 7, 15);
    menu("too much on the second", Due.told("d24 5;d24 5;d24 5;d0 5;w3 3 5;w1 4 5;w2 5 5;", 7), 3, 10);
  }

  private static void menuOnADay() {
    menu("due on day 0", Due.told("d24 5;d24 5;w0 1 5;", 3), 0, 0);
    Used x = Due.told("d24 5;d24 5;w1 4 5;w0 1 9;", 4);
    menu("due the next day", x, 1, 5);
    x.stands();
    x.night();
    menu("due on THE DAY", x, 1, 5);
    x.beats(10);
    menu("it came", x, 1, 5);
  }

  // "Behind the last DAY: as by that."
  private static void menuBehindTheLastDay() {
    for (int due = 2; due <= 13; due++) {
      menu("due on " + due, Due.told("d24 5;d24 5;w" + due + " 4 7;", 3), 1, 7);
      menu("too much on " + due, Due.told("d24 5;d24 5;w" + due + " 5 7;", 3), 0, 0);
      menu("with one ahead of " + due, Due.told("d24 5;d24 5;w" + due + " 3 7;w1 1 1;", 4), 3, 8);
      menu("too much with one ahead of " + due, Due.told("d24 5;d24 5;w" + due + " 4 7;w1 1 1;", 4), 1, 7);
    }
  }

  // "OVER: FRESH and SALTED."
  private static void menuOver() {
    Used x = Due.told("d24 5;d24 5;w2 1 1;w13 3 7;w3 4 6;w1 1 99;w13 1 2;", 7);
    x.stands();
    x.night();
    x.beats(10);
    x.stands();
    x.night();
    menu("over, cream comes not", x, 18, 9);
    x.salts(2);
    menu("over, some salted", x, 18, 9);
    x.beats(10);
    menu("over, it came", x, 22, 15);
    x.salts(6);
    menu("over, all salted", x, 22, 15);
    Due.is("feeds(1)", x.feeds(1), 5);
    menu("over, one fed", x, 20, 8);
  }

  // "Sets of WORKS that are not FED."
  private static void menuWithoutFed() {
    Used x = Due.told("d24 5;d24 5;w9 2 9;w9 2 8;", 4);
    x.stands();
    x.night();
    x.beats(10);
    menu("none fed", x, 3, 17);
    x.feeds(0);
    menu("one fed", x, 2, 8);
    x.feeds(1);
    menu("both fed", x, 0, 0);
    x.undo();
    menu("undone", x, 2, 8);
    x.undo();
    menu("undone", x, 3, 17);
  }

  // "Not past their DUE."
  private static void menuWithoutPast() {
    Used x = Due.told("d24 5;d24 5;d24 5;d24 5;w1 1 9;w2 1 8;w3 1 7;w4 1 6;", 8);
    x.stands();
    int[] bits = {15, 15, 14, 12, 8};
    int[] worth = {30, 30, 21, 13, 6};
    for (int day = 0; day <= 4; day++) {
      menu("day " + day, x, bits[day], worth[day]);
      x.night();
      if (day == 0) x.beats(10);
      if (day == 0) x.salts(4);
    }
  }

  private static void menuMostWorth() {
    menu("one of more worth", Due.told("d24 5;d0 5;w1 4 5;w1 4 6;", 4), 2, 6);
    menu("two of less", Due.told("d24 5;d0 5;w1 4 5;w1 2 3;w1 2 3;", 5), 6, 6);
    menu("worth by 99", Due.told("d24 5;d0 5;w1 1 99;w1 3 99;w1 1 98;", 5), 3, 198);
  }

  // "Of several the least bits."
  private static void menuLeastBits() {
    menu("first of two", Due.told("d24 5;d0 5;w1 4 5;w1 4 5;", 4), 1, 5);
    menu("two ahead of one", Due.told("d24 5;d0 5;w1 2 2;w1 2 3;w1 4 5;", 5), 3, 5);
    menu("one ahead of two", Due.told("d24 5;d0 5;w1 4 5;w1 2 2;w1 2 3;", 5), 1, 5);
    menu("first and second of three", Due.told("d24 5;d0 5;w1 2 5;w1 2 5;w1 2 5;", 5), 3, 10);
  }

  private static void menuOfNoWorth() {
    menu("no worth", Due.told("d24 5;d0 5;w1 1 0;w1 1 0;", 4), 0, 0);
    menu("one of no worth", Due.told("d24 5;d0 5;w1 1 0;w1 1 1;", 4), 2, 1);
  }

  // "As things are NOW; nothing is changed."
  private static void nothingIsChanged() {
    Used x = Due.told("d24 5;d24 5;d24 5;w1 1 9;w2 3 8;w0 1 7;", 6);
    x.stands();
    x.night();
    x.beats(3);
    x.stands();
    String was = Due.barn(x) + x.now(10);
    for (int d = -1; d <= 3; d++) x.coming(d);
    for (int what = -1; what <= 2; what++) x.menu(what);
    Due.same("barn", Due.barn(x) + x.now(10), was);
    Due.is("they stand already", x.stands(), ChurnedTime.STATE);
    Due.is("undo()", x.undo(), 3);
  }
}
