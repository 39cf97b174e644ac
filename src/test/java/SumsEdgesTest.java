// Promises 22 to 24, sentence by sentence: SHARE, BACK, ODDS.
public final class SumsEdgesTest {
  private static final int BAD = ChurnedTime.BAD;
  private static final int NONE = ChurnedTime.NONE;
  private static final int[] FAR = {256, 65536, -256, Integer.MIN_VALUE, Integer.MAX_VALUE};

  public static void main(String[] args) {
    sharesLeastAndMost();
    sharesBad();
    sharesNoClaims();
    sharesOneToFourClaims();
    sharesCut();
    sharesMostLeftOver();
    sharesLowestFirst();
    sharesAddUp();
    sharesOfLargestSums();
    backLeastAndMost();
    backBad();
    backNotBelowNothing();
    backNotAboveNinetyNine();
    backOfNoStrokes();
    backNone();
    backFewest();
    backByMostStrokes();
    oddsLeastAndMost();
    oddsBad();
    oddsOfNoNights();
    oddsOfMoreThanNights();
    oddsOfNoThunder();
    oddsOfSureThunder();
    oddsInLeastTerms();
    oddsOfLargestNumbers();
    nothingIsChanged();
    Due.end();
  }

  private static void share(Used x, int n, int... due) {
    for (int c = 0; c < due.length; c++) Due.is("share(" + c + ", " + n + ")", x.share(c, n), due[c]);
  }

  // Promise 22: "SHARE of n (0 .. 999) pounds."
  private static void sharesLeastAndMost() {
    Used x = Due.told("c1;c2;", 2);
    share(x, 0, 0, 0);
    share(x, 1, 0, 1);
    share(x, 998, 333, 665);
    share(x, 999, 333, 666);
  }

  private static void sharesBad() {
    Used x = Due.told("c1;c2;", 2);
    Due.is("share(-1, 5)", x.share(-1, 5), BAD);
    Due.is("share(2, 5)", x.share(2, 5), BAD);
    Due.is("share(3, 5)", x.share(3, 5), BAD);
    Due.is("share(0, -1)", x.share(0, -1), BAD);
    Due.is("share(0, 1000)", x.share(0, 1000), BAD);
    Due.is("share(2, 1000)", x.share(2, 1000), BAD);
    for (int far : FAR) {
      Due.is("share(" + far + ", 5)", x.share(far, 5), BAD);
      int pounds = far > 0 ? Math.max(far, 1256) : far;
      Due.is("share(0, " + pounds + ")", x.share(0, pounds), BAD);
    }
    Used four = Due.told("c1;c1;c1;c1;", 4);
    Due.is("the fourth", four.share(3, 4), 1);
    Due.is("a fifth", four.share(4, 4), BAD);
  }

  private static void sharesNoClaims() {
    Used x = Due.told("d1 1;w1 1 1;f3;", 3);
    for (int c = -1; c <= 4; c++) {
      Due.is("no claims: share(" + c + ", 0)", x.share(c, 0), BAD);
      Due.is("no claims: share(" + c + ", 9)", x.share(c, 9), BAD);
    }
  }

  // "CLAIMS 0 .. (4 at most): 1 .. 99 years each."
  private static void sharesOneToFourClaims() {
    share(Due.told("c1;", 1), 999, 999);
    share(Due.told("c99;", 1), 7, 7);
    share(Due.told("c99;c1;", 2), 100, 99, 1);
    share(Due.told("c1;c1;c98;", 3), 100, 1, 1, 98);
    share(Due.told("c1;c99;c1;c99;", 4), 200, 1, 99, 1, 99);
  }

  // "N times his CLAIM by all together, cut."
  private static void sharesCut() {
    share(Due.told("c2;c3;", 2), 4, 2, 2);
    share(Due.told("c2;c3;", 2), 5, 2, 3);
    share(Due.told("c2;c3;", 2), 6, 2, 4);
    share(Due.told("c2;c3;", 2), 7, 3, 4);
    share(Due.told("c2;c3;", 2), 8, 3, 5);
    share(Due.told("c2;c3;", 2), 9, 4, 5);
  }

  // "What is left goes by one to those with most left over."
  private static void sharesMostLeftOver() {
    share(Due.told("c1;c2;c4;", 3), 5, 1, 1, 3);
    share(Due.told("c1;c2;c4;", 3), 3, 0, 1, 2);
    share(Due.told("c1;c1;c1;c97;", 4), 3, 0, 0, 0, 3);
    share(Due.told("c1;c1;c1;c97;", 4), 50, 1, 1, 0, 48);
    share(Due.told("c5;c3;c3;c3;", 4), 4, 1, 1, 1, 1);
    share(Due.told("c5;c3;c3;c3;", 4), 5, 2, 1, 1, 1);
    share(Due.told("c5;c3;c3;c3;", 4), 6, 2, 2, 1, 1);
  }

  // "Of several the lowest first."
  private static void sharesLowestFirst() {
    Used x = Due.told("c1;c1;c1;c1;", 4);
    share(x, 1, 1, 0, 0, 0);
    share(x, 2, 1, 1, 0, 0);
    share(x, 3, 1, 1, 1, 0);
    share(x, 4, 1, 1, 1, 1);
    share(x, 5, 2, 1, 1, 1);
    share(Due.told("c2;c1;c1;", 3), 1, 1, 0, 0);
    share(Due.told("c1;c1;c2;", 3), 1, 0, 0, 1);
    share(Due.told("c1;c2;c1;", 3), 3, 1, 1, 1);
    share(Due.told("c1;c2;c2;c1;", 4), 1, 0, 1, 0, 0);
  }

  private static void sharesAddUp() {
    for (String text : new String[] {"c7;c9;c13;c17;", "c99;c98;c1;c1;", "c50;c25;c24;c1;"}) {
      Used x = Due.told(text, 4);
      for (int n = 0; n <= 999; n += 13) {
        int sum = 0;
        for (int c = 0; c < 4; c++) sum += x.share(c, n);
        Due.is("all of " + n + " by " + text, sum, n);
      }
    }
  }

  private static void sharesOfLargestSums() {
    share(Due.told("c99;c99;c99;c99;", 4), 999, 250, 250, 250, 249);
    share(Due.told("c99;c99;c99;c98;", 4), 999, 251, 250, 250, 248);
    share(Due.told("c99;c1;c1;c1;", 4), 999, 969, 10, 10, 10);
  }

  private static void back(int a, int b, int u, int v, int strokes, int forward) {
    Used x = new Used();
    String call = "back(" + a + ", " + b + ", " + u + ", " + v + ", ";
    Due.is(call + "0)", x.back(a, b, u, v, 0), strokes);
    Due.is(call + "1)", x.back(a, b, u, v, 1), forward);
  }

  // Promise 23: "from a (0 .. 99) years to b by strokes u forward (1 .. 20 years more), v backward (1 .. 20 less)".
  private static void backLeastAndMost() {
    back(0, 99, 1, 1, 99, 99);
    back(99, 0, 1, 1, 99, 0);
    back(0, 20, 20, 20, 1, 1);
    back(99, 79, 20, 20, 1, 0);
    back(0, 1, 1, 20, 1, 1);
    back(1, 0, 20, 1, 1, 0);
    back(99, 98, 1, 1, 1, 0);
    back(98, 99, 1, 1, 1, 1);
  }

  private static void backBad() {
    Used x = new Used();
    int[][] calls = {{-1, 0, 1, 1, 0}, {100, 0, 1, 1, 0}, {0, -1, 1, 1, 0}, {0, 100, 1, 1, 0}, {0, 0, 0, 1, 0},
      {0, 0, 21, 1, 0}, {0, 0, 1, 0, 0}, {0, 0, 1, 21, 0}, {0, 0, 1, 1, -1}, {0, 0, 1, 1, 2}, {0, 0, -1, 1, 0},
      {0, 0, 1, -1, 0}, {-1, 100, 0, 21, 2}, {0, 1, 20, 20, 2}, {5, 5, 0, 0, 0}};
    for (int[] c : calls) {
      Due.is("back(" + c[0] + ", " + c[1] + ", " + c[2] + ", " + c[3] + ", " + c[4] + ")",
          x.back(c[0], c[1], c[2], c[3], c[4]), BAD);
    }
    for (int far : FAR) {
      Due.is("a " + far, x.back(far, 0, 1, 1, 0), BAD);
      Due.is("b " + far, x.back(0, far, 1, 1, 0), BAD);
      Due.is("u " + far, x.back(0, 0, far, 1, 0), BAD);
      Due.is("v " + far, x.back(0, 0, 1, far, 0), BAD);
      Due.is("what " + far, x.back(0, 0, 1, 1, far), BAD);
    }
  }

  // "Never below 0."
  private static void backNotBelowNothing() {
    back(20, 0, 1, 20, 1, 0);
    back(19, 0, 1, 20, 2, 1);
    back(18, 0, 1, 20, 3, 2);
    back(0, 1, 3, 2, 2, 1);
    back(1, 2, 3, 2, 2, 1);
    back(3, 2, 7, 4, 3, 1);
  }

  // "Above 99."
  private static void backNotAboveNinetyNine() {
    back(79, 99, 20, 1, 1, 1);
    back(80, 99, 20, 1, 2, 1);
    back(81, 99, 20, 1, 3, 1);
    back(99, 98, 2, 3, 2, 1);
    back(98, 97, 2, 3, 2, 1);
    back(97, 96, 2, 3, 2, 1);
  }

  private static void backOfNoStrokes() {
    for (int year : new int[] {0, 1, 50, 98, 99}) {
      back(year, year, 1, 1, 0, 0);
      back(year, year, 20, 20, 0, 0);
    }
  }

  // "NONE."
  private static void backNone() {
    back(0, 1, 2, 2, NONE, NONE);
    back(0, 99, 20, 20, NONE, NONE);
    back(99, 0, 2, 4, NONE, NONE);
    back(50, 51, 20, 20, NONE, NONE);
    back(0, 98, 2, 4, 49, 49);
  }

  // "The fewest strokes: how many; how many of these forward (the least)."
  private static void backFewest() {
    back(50, 51, 3, 2, 2, 1);
    back(50, 49, 2, 3, 2, 1);
    back(0, 2, 5, 3, 2, 1);
    back(0, 7, 5, 3, 3, 2);
    back(10, 0, 3, 5, 2, 0);
    back(9, 40, 7, 5, 13, 8);
    back(40, 9, 7, 5, 11, 2);
  }

  private static void backByMostStrokes() {
    back(0, 99, 20, 19, 42, 23);
    back(99, 0, 19, 20, 42, 19);
    back(0, 99, 19, 20, 36, 21);
  }

  private static void odds(int n, int x, int k, int upper, int lower) {
    Used y = new Used();
    String call = "odds(" + n + ", " + x + ", " + k + ", ";
    Due.is(call + "0)", y.odds(n, x, k, 0), upper);
    Due.is(call + "1)", y.odds(n, x, k, 1), lower);
  }

  // Promise 24: "n (0 .. 6), x (0 .. 10), k (0 .. 6)".
  private static void oddsLeastAndMost() {
    odds(0, 0, 0, 1, 1);
    odds(6, 10, 6, 1, 1);
    odds(6, 0, 6, 0, 1);
    odds(0, 10, 6, 0, 1);
    odds(6, 10, 0, 1, 1);
    odds(6, 5, 6, 1, 64);
    odds(6, 5, 1, 63, 64);
    odds(1, 1, 1, 1, 10);
    odds(1, 9, 1, 9, 10);
  }

  private static void oddsBad() {
    Used x = new Used();
    int[][] calls = {{-1, 1, 1, 0}, {7, 1, 1, 0}, {1, -1, 1, 0}, {1, 11, 1, 0}, {1, 1, -1, 0}, {1, 1, 7, 0},
      {1, 1, 1, -1}, {1, 1, 1, 2}, {7, 11, 7, 2}, {0, 0, 7, 0}, {7, 0, 0, 1}};
    for (int[] c : calls) {
      Due.is("odds(" + c[0] + ", " + c[1] + ", " + c[2] + ", " + c[3] + ")", x.odds(c[0], c[1], c[2], c[3]), BAD);
    }
    for (int far : FAR) {
      Due.is("n " + far, x.odds(far, 1, 1, 0), BAD);
      Due.is("x " + far, x.odds(1, far, 1, 0), BAD);
      Due.is("k " + far, x.odds(1, 1, far, 0), BAD);
      Due.is("what " + far, x.odds(1, 1, 1, far), BAD);
    }
  }

  private static void oddsOfNoNights() {
    for (int x = 0; x <= 10; x++) {
      odds(0, x, 0, 1, 1);
      for (int k = 1; k <= 6; k++) odds(0, x, k, 0, 1);
    }
  }

  private static void oddsOfMoreThanNights() {
    for (int n = 0; n <= 5; n++) {
      for (int k = n + 1; k <= 6; k++) {
        odds(n, 0, k, 0, 1);
        odds(n, 5, k, 0, 1);
        odds(n, 10, k, 0, 1);
      }
    }
  }

  private static void oddsOfNoThunder() {
    for (int n = 0; n <= 6; n++) {
      odds(n, 0, 0, 1, 1);
      for (int k = 1; k <= 6; k++) odds(n, 0, k, 0, 1);
    }
  }

  private static void oddsOfSureThunder() {
    for (int n = 0; n <= 6; n++) {
      for (int k = 0; k <= 6; k++) odds(n, 10, k, k <= n ? 1 : 0, 1);
    }
  }

  // "A fraction", "in least terms".
  private static void oddsInLeastTerms() {
    int[] upper = {0, 1, 1, 3, 2, 1, 3, 7, 4, 9, 1};
    int[] lower = {1, 10, 5, 10, 5, 2, 5, 10, 5, 10, 1};
    for (int x = 0; x <= 10; x++) odds(1, x, 1, upper[x], lower[x]);
    odds(2, 5, 1, 3, 4);
    odds(2, 5, 2, 1, 4);
    odds(2, 4, 1, 16, 25);
    odds(3, 2, 1, 61, 125);
    odds(3, 4, 2, 44, 125);
    odds(4, 5, 2, 11, 16);
    odds(2, 7, 0, 1, 1);
  }

  private static void oddsOfLargestNumbers() {
    odds(6, 1, 6, 1, 1000000);
    odds(6, 9, 1, 999999, 1000000);
    odds(6, 1, 1, 468559, 1000000);
    odds(6, 9, 6, 531441, 1000000);
    odds(6, 3, 3, 25569, 100000);
  }

  private static void nothingIsChanged() {
    Used x = Due.told("d24 5;d24 5;c3;c4;", 4);
    x.stands();
    x.night();
    x.beats(9);
    String was = Seen.now(x);
    x.share(0, 999);
    x.back(0, 99, 20, 19, 1);
    x.odds(6, 9, 1, 0);
    Due.same("what shows", Seen.now(x), was);
    Due.is("back() once more", x.back(0, 99, 1, 1, 0), 99);
    Due.is("back() from elsewhere", x.back(99, 0, 20, 20, 0), NONE);
    Due.is("back() once more", x.back(0, 99, 1, 1, 1), 99);
  }
}
