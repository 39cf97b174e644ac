// Promises 18 to 21, sentence by sentence: TASTED, CHEATS, TASTE.
public final class TurnipEdgesTest {
  private static final int BAD = ChurnedTime.BAD;
  private static final int NONE = ChurnedTime.NONE;

  public static void main(String[] args) {
    tastedLeastAndMost();
    tastedBad();
    tastedSix();
    tastedAlikeCounts();
    forgets();
    tastedStays();
    tastedAnew();
    cheatsBad();
    cheatsOfNothingTasted();
    tastesIfOneCheats();
    noneCheats();
    allCheat();
    noSetCanBe();
    inAllOfThem();
    fewestCheats();
    tasteNone();
    tasteOfTwo();
    tasteLeastBits();
    tasteSmallestGreaterPart();
    nothingIsChanged();
    Due.end();
  }

  // Promise 18: "Of some DAIRIES (bits; one at least)", of "DAIRIES (1 .. 5; 3 at first)".
  private static void tastedLeastAndMost() {
    for (int dairies = 1; dairies <= 5; dairies++) {
      int most = (1 << dairies) - 1;
      String of = " of " + dairies;
      Used x = Due.told("f" + dairies + ";", 1);
      Due.is("tasted(0)" + of, x.tasted(0, 1), BAD);
      Due.is("tasted(1)" + of, x.tasted(1, 0), 1);
      Due.is("the last alone" + of, x.tasted(1 << dairies - 1, 1), 2);
      Due.is("all" + of, x.tasted(most, 1), 3);
      Due.is("one more" + of, x.tasted(most + 1, 1), BAD);
      Due.is("beyond with one" + of, x.tasted(most + 2, 0), BAD);
      Due.is("count(4)" + of, x.count(4), 3);
    }
    Used x = new Used();
    Due.is("three at first", x.tasted(7, 0), 1);
    Due.is("no fourth", x.tasted(8, 0), BAD);
  }

  private static void tastedBad() {
    Used x = Due.told("f5;", 1);
    for (int set : new int[] {0, -1, 32, 33, 64, 256, 257, 1 << 30, Integer.MIN_VALUE, Integer.MIN_VALUE + 1,
        Integer.MAX_VALUE}) {
      Due.is("tasted(" + set + ", 0)", x.tasted(set, 0), BAD);
      Due.is("tasted(" + set + ", 1)", x.tasted(set, 1), BAD);
    }
    for (int is : new int[] {-1, 2, 256, 257, Integer.MIN_VALUE, Integer.MAX_VALUE}) {
      Due.is("tasted(1, " + is + ")", x.tasted(1, is), BAD);
      Due.is("tasted(0, " + is + ")", x.tasted(0, is), BAD);
    }
    Due.is("nothing was tasted", x.count(4), 0);
    Due.is("all can be", x.cheats(0), 32);
  }

  // "TASTED (6 at most)." "How much there is. BAD; FULL."
  private static void tastedSix() {
    Used x = new Used();
    for (int i = 1; i <= 6; i++) Due.is("tasted " + i, x.tasted(i, i % 2), i);
    Due.is("a seventh", x.tasted(7, 1), ChurnedTime.FULL);
    Due.is("and once more", x.tasted(1, 1), ChurnedTime.FULL);
    Due.is("bad ahead of full", x.tasted(8, 1), BAD);
    Due.is("bad ahead of full", x.tasted(0, 1), BAD);
    Due.is("bad ahead of full", x.tasted(1, 2), BAD);
    Due.is("six are tasted", x.count(4), 6);
    Used y = Due.told("f5;", 1);
    for (int i = 0; i < 5; i++) y.tasted(1 << i, i == 4 ? 1 : 0);
    Due.is("the sixth counts", y.cheats(0), 1);
    Due.is("and may be so", y.tasted(16, 1), 6);
    Due.is("one can be", y.cheats(0), 1);
    Due.is("the seventh does not", y.tasted(16, 0), ChurnedTime.FULL);
    Due.is("one can be", y.cheats(0), 1);
    Used z = Due.told("f5;", 1);
    for (int i = 0; i < 5; i++) z.tasted(31, 1);
    Due.is("31 can be", z.cheats(0), 31);
    z.tasted(31, 0);
    Due.is("by the sixth none", z.cheats(0), 0);
  }

  private static void tastedAlikeCounts() {
    Used x = new Used();
    for (int i = 1; i <= 6; i++) Due.is("the same " + i, x.tasted(3, 1), i);
    Due.is("once more", x.tasted(3, 1), ChurnedTime.FULL);
    Due.is("cheats(0)", x.cheats(0), 6);
  }

  // Promise 19: "Nothing was TASTED: how much there was."
  private static void forgets() {
    Used x = new Used();
    Due.is("forget() of nothing", x.forget(), 0);
    x.tasted(1, 1);
    Due.is("forget() of one", x.forget(), 1);
    Due.is("count(4)", x.count(4), 0);
    Due.is("forget() twice", x.forget(), 0);
    Due.is("all can be", x.cheats(0), 8);
    for (int i = 1; i <= 6; i++) x.tasted(2, 1);
    Due.is("full", x.tasted(2, 1), ChurnedTime.FULL);
    Due.is("forget() of six", x.forget(), 6);
    Due.is("room again", x.tasted(4, 0), 1);
    Due.is("only that counts", x.cheats(0), 4);
  }

  private static void tastedStays() {
    Used x = Due.told("d24 5;d24 5;f4;", 3);
    x.keep(0);
    x.stands();
    x.tasted(3, 1);
    x.night();
    Due.is("behind a night", x.count(4), 1);
    x.undo();
    Due.is("behind undo()", x.count(4), 1);
    x.again(0);
    Due.is("behind again()", x.count(4), 1);
    Due.type(x, "x");
    x.dairy();
    Due.is("behind a fault", x.count(4), 1);
    Due.is("cheats(0)", x.cheats(0), 12);
    x.clear();
    Due.is("behind clear()", x.count(4), 1);
  }

  // "Read anew: ... nothing TASTED."
  private static void tastedAnew() {
    Used x = Due.told("f5;", 1);
    x.tasted(16, 1);
    x.tasted(31, 1);
    Due.type(x, "f2;");
    x.dairy();
    Due.is("count(4)", x.count(4), 0);
    Due.is("cheats(0)", x.cheats(0), 4);
    Due.is("tasted(3)", x.tasted(3, 1), 1);
    Due.is("tasted(4)", x.tasted(4, 1), BAD);
    Due.is("cheats(0)", x.cheats(0), 3);
  }

  // Promise 20.
  private static void cheatsBad() {
    Used x = new Used();
    for (int what : new int[] {-1, 3, 256, Integer.MIN_VALUE, Integer.MAX_VALUE}) {
      Due.is("cheats(" + what + ")", x.cheats(what), BAD);
    }
    x.tasted(1, 0);
    x.tasted(1, 1);
    Due.is("bad where none can be", x.cheats(3), BAD);
    Due.is("bad where none can be", x.cheats(-1), BAD);
  }

  private static void all(String when, Used x, int many, int inAll, int fewest, int taste) {
    Due.is(when + ": cheats(0)", x.cheats(0), many);
    Due.is(when + ": cheats(1)", x.cheats(1), inAll);
    Due.is(when + ": cheats(2)", x.cheats(2), fewest);
    Due.is(when + ": taste()", x.taste(), taste);
  }

  private static void cheatsOfNothingTasted() {
    all("at first", new Used(), 8, 0, 0, 1);
    for (int dairies = 1; dairies <= 5; dairies++) {
      all("of " + dairies, Due.told("f" + dairies + ";", 1), 1 << dairies, 0, 0, 1);
    }
  }

  // "It tastes just if one of them cheats": one at least.
  private static void tastesIfOneCheats() {
    Used x = new Used();
    x.tasted(3, 1);
    all("one of two", x, 6, 0, 1, 4);
    x.tasted(1, 1);
    x.tasted(2, 1);
    all("both of two", x, 2, 3, 2, 4);
    Used y = new Used();
    y.tasted(3, 0);
    all("none of two", y, 2, 0, 0, 4);
    Used one = Due.told("f1;", 1);
    one.tasted(1, 1);
    all("one of one", one, 1, 1, 1, NONE);
  }

  // "Sets of DAIRIES (none, too)."
  private static void noneCheats() {
    Used x = new Used();
    x.tasted(7, 0);
    all("none", x, 1, 0, 0, NONE);
    Used y = Due.told("f5;", 1);
    y.tasted(31, 0);
    all("none of five", y, 1, 0, 0, NONE);
    Used z = Due.told("f1;", 1);
    z.tasted(1, 0);
    all("none of one", z, 1, 0, 0, NONE);
  }

  private static void allCheat() {
    Used x = Due.told("f5;", 1);
    for (int i = 0; i < 5; i++) x.tasted(1 << i, 1);
    all("all of five", x, 1, 31, 5, NONE);
  }

  // "NONE", if there is no such set.
  private static void noSetCanBe() {
    Used x = new Used();
    x.tasted(1, 1);
    x.tasted(1, 0);
    all("both ways", x, 0, NONE, NONE, NONE);
    Used y = new Used();
    y.tasted(7, 0);
    y.tasted(4, 1);
    all("a part of none", y, 0, NONE, NONE, NONE);
    y.forget();
    all("forgotten", y, 8, 0, 0, 1);
  }

  // "Those who cheat in all of them (bits)."
  private static void inAllOfThem() {
    Used x = Due.told("f4;", 1);
    x.tasted(12, 1);
    Due.is("either of two", x.cheats(1), 0);
    x.tasted(4, 0);
    Due.is("the other", x.cheats(1), 8);
    x.tasted(2, 1);
    Due.is("and one more", x.cheats(1), 10);
    x.tasted(1, 1);
    Due.is("and one more", x.cheats(1), 11);
    Due.is("one set", x.cheats(0), 1);
  }

  // "The least number of cheats."
  private static void fewestCheats() {
    Used x = Due.told("f5;", 1);
    x.tasted(3, 1);
    x.tasted(12, 1);
    Due.is("one of each", x.cheats(2), 2);
    x.tasted(16, 1);
    Due.is("and the last", x.cheats(2), 3);
    Used y = Due.told("f5;", 1);
    y.tasted(7, 1);
    y.tasted(28, 1);
    Due.is("one in both", y.cheats(2), 1);
    Due.is("sets", y.cheats(0), 25);
  }

  // Promise 21: "NONE (one can be at most)."
  private static void tasteNone() {
    Used x = Due.told("f2;", 1);
    x.tasted(1, 1);
    all("two can be", x, 2, 1, 1, 2);
    x.tasted(2, 0);
    all("one can be", x, 1, 1, 1, NONE);
    x.tasted(2, 1);
    all("none can be", x, 0, NONE, NONE, NONE);
  }

  private static void tasteOfTwo() {
    for (int last = 0; last < 5; last++) {
      Used x = Due.told("f5;", 1);
      for (int i = 0; i < 5; i++) if (i != last) x.tasted(1 << i, 0);
      all("all but " + last, x, 2, 0, 0, 1 << last);
    }
  }

  // "Of several the least bits."
  private static void tasteLeastBits() {
    Used x = new Used();
    x.tasted(1, 1);
    all("the first cheats", x, 4, 1, 1, 2);
    x = new Used();
    x.tasted(1, 0);
    all("the first does not", x, 4, 0, 0, 2);
    x = new Used();
    x.tasted(6, 1);
    all("of the others one", x, 6, 0, 1, 1);
  }

  // "By which, tasted or not, the greater part of CHEATS is smallest."
  private static void tasteSmallestGreaterPart() {
    Used x = Due.told("f4;", 1);
    x.tasted(15, 1);
    all("one of four", x, 15, 0, 1, 1);
    x = Due.told("f5;", 1);
    x.tasted(7, 1);
    x.tasted(1, 0);
    all("two of three", x, 12, 0, 1, 8);
    x = new Used();
    x.tasted(7, 1);
    x.tasted(3, 0);
    all("the third", x, 1, 4, 1, NONE);
    x = new Used();
    x.tasted(3, 1);
    x.tasted(5, 1);
    all("3 of 5 or 2 of 5", x, 5, 0, 1, 2);
  }

  private static void nothingIsChanged() {
    Used x = Due.told("f4;", 1);
    x.tasted(3, 1);
    for (int i = 0; i < 3; i++) {
      all("time " + i, x, 12, 0, 1, 4);
      Due.is("count(4)", x.count(4), 1);
    }
  }
}
