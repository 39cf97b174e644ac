// Promises 18 to 21: what was tasted, CHEATS, TASTE.
public final class TurnipTest {
  public static void main(String[] args) {
    tasting();
    tastingBad();
    cheats();
    cheatsNone();
    tasteOfFirst();
    tasteByMostEven();
    forgetting();
    Due.end();
  }

  private static void tasting() {
    Used x = new Used();
    Due.is("forget nothing", x.forget(), 0);
    for (int i = 1; i <= 6; i++) {
      Due.is("tasted " + i, x.tasted(7, 1), i);
      Due.is("count " + i, x.count(4), i);
    }
    Due.is("a seventh", x.tasted(1, 1), ChurnedTime.FULL);
    Due.is("a bad seventh", x.tasted(0, 1), ChurnedTime.BAD);
    Due.is("a bad seventh", x.tasted(1, 2), ChurnedTime.BAD);
    Due.is("count(4)", x.count(4), 6);
    Due.is("cheats", x.cheats(0), 7);
  }

  private static void tastingBad() {
    Used x = new Used();
    int[] sets = {0, -1, 8, 32, Integer.MIN_VALUE, Integer.MAX_VALUE};
    for (int set : sets) Due.is("tasted " + set, x.tasted(set, 0), ChurnedTime.BAD);
    int[] are = {-1, 2, Integer.MIN_VALUE, Integer.MAX_VALUE};
    for (int is : are) Due.is("tasted is " + is, x.tasted(1, is), ChurnedTime.BAD);
    int[] whats = {-1, 3, Integer.MIN_VALUE, Integer.MAX_VALUE};
    for (int what : whats) Due.is("cheats " + what, x.cheats(what), ChurnedTime.BAD);
    Due.is("nothing tasted", x.count(4), 0);
    Due.is("most of 1", Due.told("f1;", 1).tasted(1, 0), 1);
    Due.is("too much of 1", Due.told("f1;", 1).tasted(2, 0), ChurnedTime.BAD);
    Due.is("most of 5", Due.told("f5;", 1).tasted(31, 0), 1);
    Due.is("too much of 5", Due.told("f5;", 1).tasted(32, 0), ChurnedTime.BAD);
  }

  private static void all(Used x, int many, int inAll, int least, int taste) {
    Due.is("cheats(0)", x.cheats(0), many);
    Due.is("cheats(1)", x.cheats(1), inAll);
    Due.is("cheats(2)", x.cheats(2), least);
    Due.is("taste()", x.taste(), taste);
  }

  private static void cheats() {
    Used x = Due.told("f4;", 1);
    all(x, 16, 0, 0, 1);
    x.tasted(3, 1);
    all(x, 12, 0, 1, 4);
    x.tasted(1, 0);
    all(x, 4, 2, 1, 4);
    x.tasted(12, 1);
    all(x, 3, 2, 2, 4);
    x.tasted(4, 0);
    all(x, 1, 10, 2, ChurnedTime.NONE);
    x = Due.told("f5;", 1);
    all(x, 32, 0, 0, 1);
    x.tasted(7, 1);
    x.tasted(28, 1);
    Due.is("cheats(0)", x.cheats(0), 25);
    Due.is("cheats(2), one in both", x.cheats(2), 1);
  }

  private static void cheatsNone() {
    Used x = new Used();
    x.tasted(3, 0);
    x.tasted(1, 1);
    all(x, 0, ChurnedTime.NONE, ChurnedTime.NONE, ChurnedTime.NONE);
    x.forget();
    x.tasted(7, 0);
    all(x, 1, 0, 0, ChurnedTime.NONE);
  }

  private static void tasteOfFirst() {
    for (int dairies = 1; dairies <= 5; dairies++) {
      all(Due.told("f" + dairies + ";", 1), 1 << dairies, 0, 0, 1);
    }
  }

  private static void tasteByMostEven() {
    Used x = new Used();
    x.tasted(7, 1);
    all(x, 7, 0, 1, 1);
    x.tasted(1, 0);
    all(x, 3, 0, 1, 2);
    x.tasted(2, 0);
    all(x, 1, 4, 1, ChurnedTime.NONE);
    x = Due.told("f2;", 1);
    x.tasted(3, 1);
    all(x, 3, 0, 1, 1);
    x.tasted(1, 1);
    all(x, 2, 1, 1, 2);
  }

  private static void forgetting() {
    Used x = new Used();
    x.tasted(1, 1);
    x.tasted(2, 1);
    Due.is("forget", x.forget(), 2);
    Due.is("count(4)", x.count(4), 0);
    all(x, 8, 0, 0, 1);
    Due.is("forget twice", x.forget(), 0);
    Due.is("tasted anew", x.tasted(4, 1), 1);
    all(x, 4, 4, 1, 1);
  }
}
