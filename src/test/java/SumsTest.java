// Promises 22 to 24: SHARE, BACK, ODDS.
public final class SumsTest {
  public static void main(String[] args) {
    shares();
    sharesBad();
    backs();
    backBad();
    odds();
    oddsBad();
    Due.end();
  }

  private static void share(Used x, int n, int... due) {
    for (int c = 0; c < due.length; c++) Due.is("share(" + c + ", " + n + ")", x.share(c, n), due[c]);
  }

  private static void shares() {
    Used x = Due.told("c10;c20;c31;", 3);
    share(x, 100, 16, 33, 51);
    share(x, 0, 0, 0, 0);
    share(x, 1, 0, 0, 1);
    share(x, 2, 0, 1, 1);
    share(x, 61, 10, 20, 31);
    share(x, 999, 164, 327, 508);
    share(Due.told("c1;c1;c1;", 3), 5, 2, 2, 1);
    share(Due.told("c1;c1;c1;", 3), 4, 2, 1, 1);
    share(Due.told("c1;c2;c2;c1;", 4), 3, 1, 1, 1, 0);
    share(Due.told("c1;c2;c2;c1;", 4), 4, 1, 1, 1, 1);
    share(Due.told("c1;c2;c2;c1;", 4), 2, 0, 1, 1, 0);
    share(Due.told("c99;", 1), 999, 999);
    share(Due.told("c99;c99;c99;c99;", 4), 999, 250, 250, 250, 249);
    share(Due.told("c99;c1;", 2), 50, 50, 0);
    share(Due.told("c99;c1;", 2), 49, 49, 0);
    share(Due.told("c99;c1;", 2), 51, 50, 1);
  }

  private static void sharesBad() {
    Used x = Due.told("c10;c20;", 2);
    int[] claims = {-1, 2, 4, Integer.MIN_VALUE, Integer.MAX_VALUE};
    for (int c : claims) Due.is("share of " + c, x.share(c, 5), ChurnedTime.BAD);
    int[] pounds = {-1, 1000, Integer.MIN_VALUE, Integer.MAX_VALUE};
    for (int n : pounds) Due.is("share by " + n, x.share(0, n), ChurnedTime.BAD);
    Due.is("share of no claims", new Used().share(0, 0), ChurnedTime.BAD);
  }

  private static void back(int a, int b, int u, int v, int many, int forward) {
    Used x = new Used();
    String call = "back " + a + " " + b + " " + u + " " + v;
    Due.is(call, x.back(a, b, u, v, 0), many);
    Due.is(call + " forward", x.back(a, b, u, v, 1), forward);
  }

  private static void backs() {
    int none = ChurnedTime.NONE;
    back(9, 40, 7, 5, 13, 8);
    back(40, 9, 7, 5, 11, 2);
    back(5, 5, 1, 1, 0, 0);
    back(0, 0, 20, 20, 0, 0);
    back(0, 99, 1, 1, 99, 99);
    back(99, 0, 1, 1, 99, 0);
    back(0, 99, 20, 20, none, none);
    back(0, 1, 20, 20, none, none);
    back(50, 51, 20, 19, 2, 1);
    back(0, 99, 20, 19, 42, 23);
    back(99, 99, 20, 20, 0, 0);
    back(0, 98, 14, 20, 7, 7);
    back(1, 0, 20, 1, 1, 0);
  }

  private static void backBad() {
    Used x = new Used();
    int[] years = {-1, 100, Integer.MIN_VALUE, Integer.MAX_VALUE};
    for (int n : years) {
      Due.is("back from " + n, x.back(n, 0, 1, 1, 0), ChurnedTime.BAD);
      Due.is("back to " + n, x.back(0, n, 1, 1, 0), ChurnedTime.BAD);
    }
    int[] strokes = {-1, 0, 21, Integer.MIN_VALUE, Integer.MAX_VALUE};
    for (int n : strokes) {
      Due.is("back by forward " + n, x.back(0, 0, n, 1, 0), ChurnedTime.BAD);
      Due.is("back by backward " + n, x.back(0, 0, 1, n, 0), ChurnedTime.BAD);
    }
    int[] whats = {-1, 2, Integer.MIN_VALUE, Integer.MAX_VALUE};
    for (int what : whats) Due.is("back what " + what, x.back(0, 0, 1, 1, what), ChurnedTime.BAD);
    Due.is("bad ahead of none", x.back(0, 1, 20, 20, 2), ChurnedTime.BAD);
  }

  private static void odds(int n, int x, int k, int upper, int lower) {
    Used t = new Used();
    String call = "odds " + n + " " + x + " " + k;
    Due.is(call + " upper", t.odds(n, x, k, 0), upper);
    Due.is(call + " lower", t.odds(n, x, k, 1), lower);
  }

  private static void odds() {
    odds(3, 2, 1, 61, 125);
    odds(0, 0, 0, 1, 1);
    odds(0, 10, 1, 0, 1);
    odds(6, 0, 0, 1, 1);
    odds(6, 0, 1, 0, 1);
    odds(6, 10, 6, 1, 1);
    odds(5, 10, 6, 0, 1);
    odds(6, 5, 3, 21, 32);
    odds(1, 3, 1, 3, 10);
    odds(2, 3, 2, 9, 100);
    odds(2, 3, 1, 51, 100);
    odds(6, 1, 6, 1, 1000000);
    odds(6, 9, 1, 999999, 1000000);
    odds(6, 7, 4, 74431, 100000);
    odds(2, 4, 3, 0, 1);
  }

  private static void oddsBad() {
    Used x = new Used();
    int[] sixes = {-1, 7, Integer.MIN_VALUE, Integer.MAX_VALUE};
    for (int n : sixes) {
      Due.is("odds n " + n, x.odds(n, 1, 1, 0), ChurnedTime.BAD);
      Due.is("odds k " + n, x.odds(1, 1, n, 0), ChurnedTime.BAD);
    }
    int[] tens = {-1, 11, Integer.MIN_VALUE, Integer.MAX_VALUE};
    for (int n : tens) Due.is("odds x " + n, x.odds(1, n, 1, 0), ChurnedTime.BAD);
    int[] whats = {-1, 2, Integer.MIN_VALUE, Integer.MAX_VALUE};
    for (int what : whats) Due.is("odds what " + what, x.odds(1, 1, 1, what), ChurnedTime.BAD);
  }
}
