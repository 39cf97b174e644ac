// Promises 9 to 14, sentence by sentence: what is done.
public final class DoneEdgesTest {
  private static final int BAD = ChurnedTime.BAD;
  private static final int STATE = ChurnedTime.STATE;
  private static final int NONE = ChurnedTime.NONE;

  public static void main(String[] args) {
    standsLeastAndMost();
    standsOnceADay();
    standsOfNoHoursOnce();
    standsOnTheLastDay();
    standsOver();
    beatsOneAndNinetyNine();
    beatsBad();
    beatsNoCream();
    beatsTillItComes();
    beatsBeyond();
    strokesByWarmth();
    strokesOver();
    strokesMost();
    creamByThree();
    comesAsNothing();
    beatenIsGone();
    beatenStays();
    quarrelEndsWhenBeatenEnough();
    salts();
    saltsBad();
    saltsAllAndOneMore();
    saltsMostThereCanBe();
    saltsOldestFirst();
    quarrelIsSo();
    feedsJustEnough();
    feedsOneTooFew();
    feedsByDue();
    feedsBehindTheLastDay();
    feedsOnce();
    feedsBad();
    feedsMost();
    feedsFromEachAge();
    nightHalfCut();
    nightWithoutStanding();
    nightByNightRancid();
    nightLast();
    Due.end();
  }

  // Promise 9: "STOOD: HOURS of THE DAY", 0 .. 24.
  private static void standsLeastAndMost() {
    Used x = Due.told("d0 5;d1 5;d24 5;", 3);
    int[] hours = {0, 1, 24};
    for (int d = 0; d < 3; d++) {
      Due.is("nothing stands on " + d, x.now(1), 0);
      Due.is("stands() on " + d, x.stands(), hours[d]);
      Due.is("what stands on " + d, x.now(1), hours[d]);
      x.night();
    }
  }

  // "Once a DAY."
  private static void standsOnceADay() {
    Used x = Due.told("d5 5;d6 5;", 2);
    Due.is("first", x.stands(), 5);
    Due.is("they stand already", x.stands(), STATE);
    Due.is("they stand still", x.now(1), 5);
    x.quarrels(1);
    Due.is("behind another call", x.stands(), STATE);
    x.night();
    Due.is("the next day", x.stands(), 6);
    Due.is("and they stand already", x.stands(), STATE);
  }

  // "One of 0 HOURS, too."
  private static void standsOfNoHoursOnce() {
    Used x = Due.told("d0 5;d0 5;", 2);
    Due.is("0 hours", x.stands(), 0);
    Due.is("they stand already", x.stands(), STATE);
    Due.is("that can be undone", x.now(10), 1);
    x.night();
    Due.is("the next day", x.stands(), 0);
    Due.is("they stand already", x.stands(), STATE);
  }

  private static void standsOnTheLastDay() {
    Used x = Due.told("d1 5;d1 5;d1 5;d1 5;d1 5;d1 5;d1 5;d1 5;d1 5;d1 5;d1 5;d1 5;d1 5;d9 5;", 14);
    for (int d = 0; d < 13; d++) x.night();
    Due.is("the last day", x.stands(), 9);
    Due.is("night()", x.night(), 14);
    Due.is("over", x.stands(), STATE);
  }

  // "Not, when it is OVER."
  private static void standsOver() {
    Due.is("no days", new Used().stands(), STATE);
    Used x = Due.told("d24 5;", 1);
    x.night();
    Due.is("over", x.stands(), STATE);
    Due.is("nothing stands", x.now(1), 0);
    x.undo();
    Due.is("not over", x.stands(), 24);
  }

  private static Used withCream(String text, int items) {
    Used x = Due.told(text, items);
    x.stands();
    x.night();
    return x;
  }

  // Promise 10: "BEAT with n (1 .. 99) strokes."
  private static void beatsOneAndNinetyNine() {
    Used x = withCream("d24 5;d24 5;", 2);
    Due.is("beats(1)", x.beats(1), NONE);
    Due.is("beaten", x.now(3), 1);
    Due.is("beats(99)", x.beats(99), 4);
    Due.is("beaten", x.now(3), 0);
    Due.is("beats(99) at first", withCream("d24 5;d24 5;", 2).beats(99), 4);
  }

  private static void beatsBad() {
    Used x = withCream("d24 5;d24 5;", 2);
    Due.is("beats(0)", x.beats(0), BAD);
    Due.is("beats(100)", x.beats(100), BAD);
    Due.is("beats(-1)", x.beats(-1), BAD);
    Due.is("beats(266)", x.beats(266), BAD);
    Due.is("beats(least)", x.beats(Integer.MIN_VALUE), BAD);
    Due.is("beats(most)", x.beats(Integer.MAX_VALUE), BAD);
    Due.is("none is beaten", x.now(3), 0);
    Due.is("none came", x.now(4), 0);
  }

  // "STATE: no CREAM."
  private static void beatsNoCream() {
    Used x = Due.told("d1 5;d2 5;d0 5;", 3);
    Due.is("no cream at first", x.beats(10), STATE);
    x.stands();
    Due.is("what stands is no cream", x.beats(10), STATE);
    x.night();
    Due.is("half of 1 is none", x.beats(10), STATE);
    x.stands();
    x.night();
    Due.is("half of 2 is one", x.beats(9), NONE);
  }

  // "Is it STROKES or more then, it COMES."
  private static void beatsTillItComes() {
    Used x = withCream("d24 5;d24 5;", 2);
    Due.is("need", x.now(9), 10);
    Due.is("one too few", x.beats(9), NONE);
    Due.is("need", x.now(9), 1);
    Due.is("just as many", x.beats(1), 4);
    Due.is("at once", withCream("d24 5;d24 5;", 2).beats(10), 4);
    Due.is("one more", withCream("d24 5;d24 5;", 2).beats(11), 4);
    Due.is("one less", withCream("d24 5;d24 5;", 2).beats(9), NONE);
    Used y = withCream("d24 5;d24 5;", 2);
    for (int i = 1; i <= 9; i++) {
      Due.is("stroke " + i, y.beats(1), NONE);
      Due.is("beaten by " + i, y.now(3), i);
      Due.is("need behind " + i, y.now(9), 10 - i);
    }
    Due.is("stroke 10", y.beats(1), 4);
  }

  private static void beatsBeyond() {
    Used x = withCream("d24 5;d24 5;", 2);
    x.beats(9);
    Due.is("9 and 99", x.beats(99), 4);
    Due.is("beaten 0", x.now(3), 0);
    Due.is("no need", x.now(9), 0);
  }

  // "3 times by how much WARMTH of THE DAY is off 5 ..., and 10, if there is a QUARREL."
  private static void strokesByWarmth() {
    int[] strokes = {25, 22, 19, 16, 13, 10, 13, 16, 19, 22};
    for (int warmth = 0; warmth <= 9; warmth++) {
      String text = "d24 5;d24 " + warmth + ";";
      String of = " by " + warmth;
      Used x = withCream(text, 2);
      Due.is("need" + of, x.now(9), strokes[warmth]);
      Due.is("one too few" + of, x.beats(strokes[warmth] - 1), NONE);
      Due.is("the last" + of, x.beats(1), 4);
      Used y = withCream(text, 2);
      Due.is("quarrel" + of, y.quarrels(1), strokes[warmth] + 10);
      Due.is("need in a quarrel" + of, y.now(9), strokes[warmth] + 10);
      Due.is("one too few in a quarrel" + of, y.beats(strokes[warmth] + 9), NONE);
      Due.is("the last in a quarrel" + of, y.beats(1), 4);
      Due.is("the quarrel is there still" + of, y.now(7), 1);
      Due.is("quarrel ended" + of, y.quarrels(0), strokes[warmth]);
    }
  }

  // "OVER: as 5."
  private static void strokesOver() {
    Used x = Due.told("d24 0;", 1);
    Due.is("by 0", x.quarrels(1), 35);
    x.stands();
    x.night();
    Due.is("over, in a quarrel", x.now(9), 20);
    Due.is("over", x.quarrels(0), 10);
    Due.is("need, over", x.now(9), 10);
    Due.is("9, over", x.beats(9), NONE);
    Due.is("10, over", x.beats(1), 4);
    Due.is("no days", new Used().quarrels(1), 20);
  }

  private static void strokesMost() {
    Used x = withCream("d24 5;d24 0;", 2);
    x.quarrels(1);
    Due.is("need", x.now(9), 35);
    Due.is("34", x.beats(34), NONE);
    Due.is("need", x.now(9), 1);
    Due.is("35", x.beats(1), 4);
  }

  // "POUNDS are CREAM by 3, cut: they are FRESH (of age 0), CREAM is what is left over, BEATEN 0."
  private static void creamByThree() {
    for (int hours = 2; hours <= 24; hours++) {
      Used x = withCream("d" + hours + " 5;d0 5;", 2);
      int cream = hours / 2;
      Due.is("cream of " + hours, x.now(2), cream);
      Due.is("pounds of " + cream, x.beats(10), cream / 3);
      Due.is("fresh of " + cream, x.fresh(0), cream / 3);
      Due.is("all fresh of " + cream, x.now(4), cream / 3);
      Due.is("left over of " + cream, x.now(2), cream % 3);
      Due.is("need behind " + cream, x.now(9), cream % 3 == 0 ? 0 : 10);
      Due.is("beats again behind " + cream, x.beats(10), cream % 3 == 0 ? STATE : 0);
      Due.is("fresh still of " + cream, x.fresh(0), cream / 3);
      Due.is("left over still of " + cream, x.now(2), cream % 3);
    }
  }

  private static void comesAsNothing() {
    Used x = withCream("d2 5;d0 5;", 2);
    Due.is("9 of little", x.beats(9), NONE);
    Due.is("it comes, as no pound", x.beats(1), 0);
    Due.is("beaten 0", x.now(3), 0);
    Due.is("cream stays", x.now(2), 1);
    Due.is("none is fresh", x.now(4), 0);
    Due.is("that can be undone", x.undo(), 3);
    Due.is("beaten", x.now(3), 9);
  }

  // "A NIGHT goes by: ... BEATEN is 0."
  private static void beatenIsGone() {
    Used x = withCream("d24 5;d24 5;d0 5;", 3);
    x.beats(9);
    x.night();
    Due.is("beaten", x.now(3), 0);
    Due.is("cream stays", x.now(2), 12);
    Due.is("need", x.now(9), 10);
    Due.is("9 more", x.beats(9), NONE);
  }

  private static void beatenStays() {
    Used x = withCream("d24 5;d24 5;w9 1 1;", 3);
    x.beats(10);
    x.stands();
    x.night();
    x.beats(8);
    x.quarrels(1);
    x.salts(1);
    x.feeds(0);
    x.quarrels(0);
    Due.is("beaten", x.now(3), 8);
    Due.is("need", x.now(9), 2);
    Due.is("1 more", x.beats(1), NONE);
    Due.is("and the last", x.beats(1), 4);
  }

  // "NEED: how many strokes more it takes till it COMES (1 at least; 0: no CREAM)."
  private static void quarrelEndsWhenBeatenEnough() {
    Used x = withCream("d24 5;d24 5;", 2);
    x.quarrels(1);
    x.beats(10);
    Due.is("need", x.now(9), 10);
    x.quarrels(0);
    Due.is("need is 1 at least", x.now(9), 1);
    Due.is("it came not by that", x.now(4), 0);
    Due.is("cream stays", x.now(2), 12);
    x.quarrels(1);
    x.beats(9);
    x.quarrels(0);
    Due.is("beaten 19", x.now(3), 19);
    Due.is("need is 1 still", x.now(9), 1);
    Due.is("beats(1)", x.beats(1), 4);
    Due.is("no cream, no need", x.now(9), 0);
  }

  // Promise 11: "n (1 .. 99) FRESH pounds, the oldest first, become SALTED."
  private static Used withFresh() {
    Used x = Due.told("d24 5;d18 5;d12 5;d0 5;d0 5;w13 1 1;", 6);
    for (int d = 0; d < 3; d++) {
      x.stands();
      x.night();
      x.beats(10);
    }
    return x;
  }

  private static void salts() {
    Used x = withFresh();
    Due.same("fresh", Due.barn(x), "3 0 0 0 9 0 0 0 0 0 2 3 4 ");
    Due.is("salts(1)", x.salts(1), 1);
    Due.is("salts(1), all salted", x.salts(1), 2);
    Due.is("salts(2)", x.salts(2), 4);
    Due.same("fresh", Due.barn(x), "3 0 0 0 5 4 0 0 0 0 2 3 0 ");
  }

  private static void saltsBad() {
    Used x = withFresh();
    Due.is("salts(0)", x.salts(0), BAD);
    Due.is("salts(-1)", x.salts(-1), BAD);
    Due.is("salts(100)", x.salts(100), BAD);
    Due.is("salts(257)", x.salts(257), BAD);
    Due.is("salts(least)", x.salts(Integer.MIN_VALUE), BAD);
    Due.is("salts(most)", x.salts(Integer.MAX_VALUE), BAD);
    Due.is("salts(99) is no bad number", x.salts(99), STATE);
    Due.is("none is salted", x.now(5), 0);
  }

  // "STATE: not so many are FRESH."
  private static void saltsAllAndOneMore() {
    Used x = withFresh();
    Due.is("one too many", x.salts(10), STATE);
    Due.is("all", x.salts(9), 9);
    Due.is("none is left", x.salts(1), STATE);
    x = withFresh();
    x.feeds(0);
    Due.is("one is fed", x.salts(9), STATE);
    Due.is("the others", x.salts(8), 8);
    x = withFresh();
    x.night();
    Due.is("rancid ones are not fresh", x.salts(6), STATE);
    Due.is("the fresh ones", x.salts(5), 5);
    Due.is("rancid ones stay", x.now(6), 4);
  }

  // All cream of 14 days of 24 hours, beaten at once.
  private static Used withMost() {
    Used x = Due.told("d24 5;d24 5;d24 5;d24 5;d24 5;d24 5;d24 5;d24 5;d24 5;d24 5;d24 5;d24 5;d24 5;d24 5;"
        + "w13 30 1;w13 26 2;", 16);
    for (int d = 0; d < 14; d++) {
      x.stands();
      x.night();
    }
    return x;
  }

  private static void saltsMostThereCanBe() {
    Used x = withMost();
    Due.is("most cream", x.now(2), 168);
    Due.is("most pounds", x.beats(99), 56);
    Due.is("one too many", x.salts(57), STATE);
    Due.is("all", x.salts(56), 56);
    Due.is("no cream is left", x.now(2), 0);
  }

  private static void saltsOldestFirst() {
    int[][] left = {{2, 3, 4}, {2, 3, 3}, {2, 3, 2}, {2, 3, 1}, {2, 3, 0}, {2, 2, 0}, {2, 1, 0}, {2, 0, 0},
      {1, 0, 0}, {0, 0, 0}};
    for (int n = 1; n <= 9; n++) {
      Used x = withFresh();
      Due.is("salts(" + n + ")", x.salts(n), n);
      for (int age = 0; age <= 2; age++) Due.is("of " + n + ": fresh(" + age + ")", x.fresh(age), left[n][age]);
    }
  }

  // Promise 12: "BAD; STATE: it is so."
  private static void quarrelIsSo() {
    Used x = Due.told("d24 5;d24 5;", 2);
    Due.is("none is so", x.quarrels(0), STATE);
    Due.is("one", x.quarrels(1), 20);
    Due.is("one is so", x.quarrels(1), STATE);
    Due.is("now(7)", x.now(7), 1);
    Due.is("none", x.quarrels(0), 10);
    Due.is("none is so", x.quarrels(0), STATE);
    Due.is("now(7)", x.now(7), 0);
    int[] bad = {-1, 2, 256, 257, Integer.MIN_VALUE, Integer.MAX_VALUE};
    for (int is : bad) Due.is("quarrels(" + is + ")", x.quarrels(is), BAD);
    x.quarrels(1);
    for (int is : bad) Due.is("in a quarrel: quarrels(" + is + ")", x.quarrels(is), BAD);
    x.night();
    Due.is("behind a night there is one", x.quarrels(1), STATE);
  }

  // Promise 13: "FED: pounds that are left ... STATE: it is FED, past its DUE, there are not so many."
  private static void feedsJustEnough() {
    Used x = withCream("d24 5;d0 5;w9 4 1;w9 1 1;", 4);
    x.beats(10);
    Due.is("just enough", x.feeds(0), 0);
    Due.is("none is left", x.feeds(1), STATE);
    x = withCream("d24 5;d0 5;w9 4 1;w9 1 1;", 4);
    x.beats(10);
    x.salts(4);
    Due.is("just enough, salted", x.feeds(0), 0);
    Due.is("no salted is left", x.now(5), 0);
    x = withCream("d24 5;d0 5;w9 4 1;w9 1 1;", 4);
    x.beats(10);
    x.salts(1);
    Due.is("just enough of both", x.feeds(0), 0);
    x = withCream("d24 5;d0 5;w9 3 1;w9 1 1;", 4);
    x.beats(10);
    Due.is("one is left", x.feeds(0), 1);
    Due.is("and fed", x.feeds(1), 0);
  }

  private static void feedsOneTooFew() {
    Used x = withCream("d24 5;d0 5;d0 5;d0 5;d0 5;w9 5 1;w9 4 1;", 7);
    x.beats(10);
    Due.is("one too few", x.feeds(0), STATE);
    x.salts(2);
    Due.is("one too few of both", x.feeds(0), STATE);
    for (int i = 0; i < 3; i++) x.night();
    Due.is("two are rancid", x.now(6), 2);
    Due.is("rancid ones feed none", x.feeds(1), STATE);
    Due.is("cream feeds none", withCream("d24 5;d0 5;w9 1 1;", 3).feeds(0), STATE);
  }

  // "THE DAY not beyond its DUE."
  private static void feedsByDue() {
    String text = "d24 5;d0 5;d0 5;d0 5;w0 1 1;w1 1 1;w2 1 1;w3 1 1;w4 1 1;w13 1 1;";
    for (int day = 1; day <= 3; day++) {
      for (int w = 0; w < 6; w++) {
        Used x = withCream(text, 10);
        x.beats(10);
        x.salts(4);
        for (int d = 1; d < day; d++) x.night();
        Due.is("day " + day + ": feeds(" + w + ")", x.feeds(w), w < day ? STATE : 3);
        Due.is("day " + day + ": bits", x.now(8), w < day ? 0 : 1 << w);
      }
    }
  }

  private static void feedsBehindTheLastDay() {
    String text = "d24 5;d0 5;w1 1 1;w2 1 1;w3 1 1;w13 1 1;";
    int[] due = {STATE, 3, 3, 3};
    for (int w = 0; w < 4; w++) {
      Used x = withCream(text, 6);
      x.beats(10);
      x.night();
      Due.is("over: feeds(" + w + ")", x.feeds(w), due[w]);
    }
  }

  private static void feedsOnce() {
    Used x = withCream("d24 5;d0 5;w9 1 1;w9 1 1;", 4);
    x.beats(10);
    Due.is("feeds(1)", x.feeds(1), 3);
    Due.is("it is fed", x.feeds(1), STATE);
    Due.is("feeds(0)", x.feeds(0), 2);
    Due.is("both are fed", x.feeds(1), STATE);
    Due.is("both are fed", x.feeds(0), STATE);
    Due.is("pounds stay", x.now(4), 2);
  }

  private static void feedsBad() {
    Used x = withCream("d24 5;d0 5;w9 1 1;w9 1 1;", 4);
    x.beats(10);
    for (int w : new int[] {-1, 2, 5, 6, 32, 33, 256, -32, Integer.MIN_VALUE, Integer.MAX_VALUE}) {
      Due.is("feeds(" + w + ")", x.feeds(w), BAD);
    }
    Due.is("none is fed", x.now(8), 0);
    Due.is("of no works", Due.told("d24 5;", 1).feeds(0), BAD);
    Used y = withCream("d24 5;d0 5;w9 1 1;w9 1 1;w9 1 1;w9 1 1;w9 1 1;w9 1 1;", 8);
    y.beats(10);
    Due.is("the sixth", y.feeds(5), 3);
    Due.is("a seventh", y.feeds(6), BAD);
    Due.is("bits", y.now(8), 32);
  }

  private static void feedsMost() {
    Used x = withMost();
    x.beats(10);
    Due.is("over, past its due", x.feeds(0), STATE);
    Used y = withMost();
    y.undo();
    y.beats(10);
    Due.is("most on day 13", y.now(4), 52);
    Due.is("30 pounds", y.feeds(0), 22);
    Due.is("26 are too many", y.feeds(1), STATE);
  }

  // "Its POUNDS are taken, FRESH ones first (the oldest ones first), then SALTED ones."
  private static void feedsFromEachAge() {
    feeds(1, 12, "4 0 0 0 7 5 0 0 1 0 2 3 2 ");
    feeds(3, 10, "4 0 0 0 5 5 0 0 1 0 2 3 0 ");
    feeds(4, 9, "4 0 0 0 4 5 0 0 1 0 2 2 0 ");
    feeds(6, 7, "4 0 0 0 2 5 0 0 1 0 2 0 0 ");
    feeds(7, 6, "4 0 0 0 1 5 0 0 1 0 1 0 0 ");
    feeds(8, 5, "4 0 0 0 0 5 0 0 1 0 0 0 0 ");
    feeds(9, 4, "4 0 0 0 0 4 0 0 1 0 0 0 0 ");
    feeds(13, 0, "4 0 0 0 0 0 0 0 1 0 0 0 0 ");
    feeds(14, STATE, "4 0 0 0 8 5 0 0 0 0 2 3 3 ");
  }

  // From 3 pounds of age 2, 3 of age 1, 2 of age 0 and 5 salted ones.
  private static void feeds(int pounds, int due, String barn) {
    Used x = Due.told("d24 5;d24 5;d18 5;d12 5;d0 5;w13 " + pounds + " 1;", 6);
    for (int d = 0; d < 4; d++) {
      x.stands();
      x.night();
      x.beats(10);
      if (d == 0) x.salts(4);
      if (d == 1) x.salts(1);
    }
    Due.same("ahead of " + pounds, Due.barn(x), "4 0 0 0 8 5 0 0 0 0 2 3 3 ");
    Due.is("feeds " + pounds, x.feeds(0), due);
    Due.same("behind " + pounds, Due.barn(x), barn);
  }

  // Promise 14: "What STOOD is half CREAM (cut; added)."
  private static void nightHalfCut() {
    for (int hours = 0; hours <= 24; hours++) {
      Used x = Due.told("d" + hours + " 5;d" + hours + " 5;", 2);
      x.stands();
      Due.is("night() of " + hours, x.night(), 1);
      Due.is("half of " + hours, x.now(2), hours / 2);
      Due.is("nothing stands behind " + hours, x.now(1), 0);
      x.stands();
      x.night();
      Due.is("added of " + hours, x.now(2), 2 * (hours / 2));
    }
  }

  private static void nightWithoutStanding() {
    Used x = Due.told("d24 5;d24 5;d24 5;", 3);
    x.night();
    Due.is("nothing stood, no cream", x.now(2), 0);
    x.stands();
    x.undo();
    x.night();
    Due.is("it was undone, no cream", x.now(2), 0);
    x.stands();
    x.night();
    Due.is("it stood", x.now(2), 12);
  }

  // "FRESH pounds are a day older, those of age 3 then are RANCID."
  private static void nightByNightRancid() {
    Used x = withFresh();
    Due.same("day 3", Due.barn(x), "3 0 0 0 9 0 0 0 0 0 2 3 4 ");
    x.night();
    Due.same("day 4", Due.barn(x), "4 0 0 0 5 0 4 0 0 0 0 2 3 ");
    x.night();
    Due.same("day 5", Due.barn(x), "5 0 0 0 2 0 7 0 0 0 0 0 2 ");
    Due.is("no more nights", x.night(), STATE);
    Due.is("none older", x.now(6), 7);
    Used y = withFresh();
    y.salts(4);
    y.night();
    Due.same("salted ones keep", Due.barn(y), "4 0 0 0 5 4 0 0 0 0 0 2 3 ");
  }

  // "STATE: it is OVER."
  private static void nightLast() {
    Due.is("no days", new Used().night(), STATE);
    Used one = Due.told("d24 5;", 1);
    Due.is("one day", one.night(), 1);
    Due.is("over", one.night(), STATE);
    Due.is("THE DAY", one.now(0), 1);
    Used x = Due.told("d1 5;d1 5;d1 5;d1 5;d1 5;d1 5;d1 5;d1 5;d1 5;d1 5;d1 5;d1 5;d1 5;d9 5;", 14);
    for (int d = 1; d <= 14; d++) Due.is("night " + d, x.night(), d);
    Due.is("a fifteenth night", x.night(), STATE);
    Due.is("THE DAY", x.now(0), 14);
    x.undo();
    Due.is("undone", x.now(0), 13);
    Due.is("night once more", x.night(), 14);
  }
}
