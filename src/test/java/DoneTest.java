// Promises 7 to 15: what is done, and undone.
public final class DoneTest {
  public static void main(String[] args) {
    standing();
    standingOfNoHours();
    beating();
    beatingBadly();
    strokesByWarmth();
    beatenMoreThanStrokes();
    salting();
    quarrelling();
    feeding();
    feedingByDue();
    feedingFreshFirst();
    nights();
    rancid();
    undoing();
    undoingRefused();
    undoingTen();
    nowAndFreshBad();
    Due.end();
  }

  private static void standing() {
    Used x = Due.told("d7 5;d24 5;", 2);
    Due.is("stands", x.stands(), 7);
    Due.is("now(1)", x.now(1), 7);
    Due.is("now(2)", x.now(2), 0);
    Due.is("stands twice", x.stands(), ChurnedTime.STATE);
    Due.is("refused can't be undone", x.now(10), 1);
    Due.is("night", x.night(), 1);
    Due.is("half, cut", x.now(2), 3);
    Due.is("nothing stands", x.now(1), 0);
    Due.is("stands on the next day", x.stands(), 24);
    Due.is("night", x.night(), 2);
    Due.is("added", x.now(2), 15);
    Due.is("stands, over", x.stands(), ChurnedTime.STATE);
    Due.is("night, over", x.night(), ChurnedTime.STATE);
    Due.is("now(10)", x.now(10), 4);
    Due.is("THE DAY", x.now(0), 2);
  }

  private static void standingOfNoHours() {
    Used x = Due.told("d0 5;d0 5;", 2);
    Due.is("stands", x.stands(), 0);
    Due.is("stands twice", x.stands(), ChurnedTime.STATE);
    Due.is("undo", x.undo(), 0);
    Due.is("stands behind undo", x.stands(), 0);
    Due.is("keep", x.keep(0), 0);
    Due.is("night", x.night(), 1);
    Due.is("stands", x.stands(), 0);
    Due.is("again", x.again(0), 0);
    Due.is("stands as the image has it", x.stands(), ChurnedTime.STATE);
  }

  private static Used withCream(String text, int items) {
    Used x = Due.told(text, items);
    x.stands();
    x.night();
    return x;
  }

  private static void beating() {
    Used x = withCream("d22 5;d0 5;", 2);
    Due.is("cream", x.now(2), 11);
    Due.is("need", x.now(9), 10);
    Due.is("beats(9)", x.beats(9), ChurnedTime.NONE);
    Due.is("beaten", x.now(3), 9);
    Due.is("need", x.now(9), 1);
    Due.is("now(10) counts what did not come", x.now(10), 3);
    Due.is("beats(1)", x.beats(1), 3);
    Due.is("beaten 0", x.now(3), 0);
    Due.is("cream left", x.now(2), 2);
    Due.is("fresh of age 0", x.fresh(0), 3);
    Due.is("need anew", x.now(9), 10);
    Due.is("beats(99)", x.beats(99), 0);
    Due.is("cream stays", x.now(2), 2);
    Due.is("beats(3)", x.beats(3), ChurnedTime.NONE);
    x.night();
    Due.is("not beaten by a night", x.now(3), 0);
    Due.is("over: ten strokes", x.now(9), 10);
    Due.is("over: beats", x.beats(10), 0);
  }

  private static void beatingBadly() {
    Used x = Due.told("d24 5;d24 5;", 2);
    int[] bad = {0, -1, 100, Integer.MIN_VALUE, Integer.MAX_VALUE};
    for (int n : bad) Due.is("beats bad, no cream " + n, x.beats(n), ChurnedTime.BAD);
    Due.is("no cream", x.beats(1), ChurnedTime.STATE);
    Due.is("no cream", x.beats(99), ChurnedTime.STATE);
    Due.is("nothing changed", x.now(10), 0);
    Due.is("no need without cream", x.now(9), 0);
    x.stands();
    Due.is("what stands is no cream", x.beats(1), ChurnedTime.STATE);
    x.night();
    for (int n : bad) Due.is("beats bad " + n, x.beats(n), ChurnedTime.BAD);
    Due.is("nothing beaten", x.now(3), 0);
    Due.is("beats(99)", x.beats(99), 4);
    Due.is("cream all gone", x.now(2), 0);
    Due.is("no cream behind it", x.beats(9), ChurnedTime.STATE);
    Due.is("no need behind it", x.now(9), 0);
  }

  private static void strokesByWarmth() {
    int[] strokes = {25, 22, 19, 16, 13, 10, 13, 16, 19, 22};
    for (int warmth = 0; warmth <= 9; warmth++) {
      Used x = withCream("d24 5;d24 " + warmth + ";", 2);
      Due.is("need by " + warmth, x.now(9), strokes[warmth]);
      Due.is("strokes with a quarrel by " + warmth, x.quarrels(1), strokes[warmth] + 10);
      Due.is("need with a quarrel by " + warmth, x.now(9), strokes[warmth] + 10);
      Due.is("not yet " + warmth, x.beats(strokes[warmth] + 9), ChurnedTime.NONE);
      Due.is("comes " + warmth, x.beats(1), 4);
      Due.is("strokes without by " + warmth, x.quarrels(0), strokes[warmth]);
      x.night();
      Due.is("strokes when over", x.quarrels(1), 20);
    }
  }

  private static void beatenMoreThanStrokes() {
    Used x = withCream("d24 5;d24 5;", 2);
    x.quarrels(1);
    Due.is("beats(15)", x.beats(15), ChurnedTime.NONE);
    Due.is("need", x.now(9), 5);
    Due.is("quarrels(0)", x.quarrels(0), 10);
    Due.is("need is 1 at least", x.now(9), 1);
    Due.is("it is still beaten", x.now(3), 15);
    Due.is("it has not come", x.now(4), 0);
    Due.is("beats(1)", x.beats(1), 4);
  }

  private static void salting() {
    Used x = Due.told("d24 5;d24 5;d24 5;d24 5;", 4);
    int[] bad = {0, -1, 100, Integer.MIN_VALUE, Integer.MAX_VALUE};
    for (int n : bad) Due.is("salts bad " + n, x.salts(n), ChurnedTime.BAD);
    Due.is("salts none", x.salts(1), ChurnedTime.STATE);
    Due.is("salts none", x.salts(99), ChurnedTime.STATE);
    for (int d = 0; d < 3; d++) {
      x.stands();
      x.night();
      x.beats(10);
    }
    Due.same("three ages", Due.barn(x), "3 0 0 0 12 0 0 0 0 0 4 4 4 ");
    Due.is("salts too many", x.salts(13), ChurnedTime.STATE);
    Due.is("salts(3)", x.salts(3), 3);
    Due.same("oldest first", Due.barn(x), "3 0 0 0 9 3 0 0 0 0 4 4 1 ");
    Due.is("salts(3)", x.salts(3), 6);
    Due.same("then the next", Due.barn(x), "3 0 0 0 6 6 0 0 0 0 4 2 0 ");
    Due.is("salts all", x.salts(6), 12);
    Due.same("none is fresh", Due.barn(x), "3 0 0 0 0 12 0 0 0 0 0 0 0 ");
    Due.is("salts no salted ones", x.salts(1), ChurnedTime.STATE);
    x.night();
    Due.is("salted ones keep", x.now(5), 12);
    Due.is("none is rancid", x.now(6), 0);
  }

  private static void quarrelling() {
    Used x = Due.told("d24 2;", 1);
    Due.is("quarrels(2)", x.quarrels(2), ChurnedTime.BAD);
    Due.is("quarrels(-1)", x.quarrels(-1), ChurnedTime.BAD);
    Due.is("quarrels(0)", x.quarrels(0), ChurnedTime.STATE);
    Due.is("quarrels(1)", x.quarrels(1), 29);
    Due.is("now(7)", x.now(7), 1);
    Due.is("quarrels(1) twice", x.quarrels(1), ChurnedTime.STATE);
    Due.is("no refused one is known", x.now(10), 1);
    x.night();
    Due.is("a quarrel outlives the night", x.now(7), 1);
    Due.is("over", x.quarrels(0), 10);
    Due.is("now(7)", x.now(7), 0);
  }

  private static void feeding() {
    Used x = withCream("d24 5;d24 5;w1 2 1;w1 3 1;w1 2 1;", 5);
    int[] bad = {-1, 3, 6, Integer.MIN_VALUE, Integer.MAX_VALUE};
    for (int w : bad) Due.is("feeds bad " + w, x.feeds(w), ChurnedTime.BAD);
    Due.is("feeds from nothing", x.feeds(0), ChurnedTime.STATE);
    x.beats(10);
    Due.is("feeds(0)", x.feeds(0), 2);
    Due.is("fed bits", x.now(8), 1);
    Due.is("fed twice", x.feeds(0), ChurnedTime.STATE);
    Due.is("not so many", x.feeds(1), ChurnedTime.STATE);
    Due.is("feeds(2), just enough", x.feeds(2), 0);
    Due.is("fed bits", x.now(8), 5);
    Due.is("work(2, 3)", x.work(2, 3), 1);
    Due.is("work(1, 3)", x.work(1, 3), 0);
    Due.is("undo", x.undo(), 4);
    Due.is("fed bits behind undo", x.now(8), 1);
    Due.is("feeds once more", x.feeds(2), 0);
  }

  private static void feedingByDue() {
    Used x = withCream("d24 5;d24 5;w0 1 1;w1 1 1;w2 1 1;w13 1 1;w1 1 0;", 7);
    x.beats(10);
    Due.is("past its due", x.feeds(0), ChurnedTime.STATE);
    Due.is("on its due", x.feeds(1), 3);
    x.night();
    Due.is("over, past its due", x.feeds(4), ChurnedTime.STATE);
    Due.is("over, on its due", x.feeds(2), 2);
    Due.is("over, due later", x.feeds(3), 1);
  }

  private static void feedingFreshFirst() {
    Used x = Due.told("d24 5;d24 5;d24 5;d24 5;w13 3 1;w13 6 1;w13 1 1;", 7);
    for (int d = 0; d < 3; d++) {
      x.stands();
      x.night();
      x.beats(10);
    }
    x.salts(2);
    Due.same("ahead", Due.barn(x), "3 0 0 0 10 2 0 0 0 0 4 4 2 ");
    Due.is("feeds(0)", x.feeds(0), 9);
    Due.same("oldest fresh first", Due.barn(x), "3 0 0 0 7 2 0 0 1 0 4 3 0 ");
    Due.is("feeds(1)", x.feeds(1), 3);
    Due.same("no salted one as yet", Due.barn(x), "3 0 0 0 1 2 0 0 3 0 1 0 0 ");
    Due.is("undo", x.undo(), 9);
    Due.is("salts(6)", x.salts(6), 8);
    Due.is("feeds(1)", x.feeds(1), 3);
    Due.same("salted ones last", Due.barn(x), "3 0 0 0 0 3 0 0 3 0 0 0 0 ");
    Due.is("feeds(2)", x.feeds(2), 2);
    Due.is("salted", x.now(5), 2);
  }

  private static void nights() {
    Used x = Due.told("d24 5;d23 5;d1 5;", 3);
    Due.is("night with nothing", x.night(), 1);
    Due.is("no cream", x.now(2), 0);
    x.stands();
    Due.is("night", x.night(), 2);
    Due.is("11 of 23", x.now(2), 11);
    Due.is("stands", x.stands(), 1);
    x.beats(4);
    Due.is("night", x.night(), 3);
    Due.is("0 of 1", x.now(2), 11);
    Due.is("not beaten", x.now(3), 0);
    Due.is("night, over", x.night(), ChurnedTime.STATE);
    Due.is("night of no days", new Used().night(), ChurnedTime.STATE);
  }

  private static void rancid() {
    Used x = Due.told("d24 5;d18 5;d0 5;d0 5;d0 5;d0 5;", 6);
    x.stands();
    x.night();
    x.beats(10);
    x.stands();
    x.night();
    x.beats(10);
    Due.same("two ages", Due.barn(x), "2 0 0 0 7 0 0 0 0 0 3 4 0 ");
    x.night();
    Due.same("older", Due.barn(x), "3 0 0 0 7 0 0 0 0 0 0 3 4 ");
    x.night();
    Due.same("four are rancid", Due.barn(x), "4 0 0 0 3 0 4 0 0 0 0 0 3 ");
    Due.is("rancid ones are not salted", x.salts(4), ChurnedTime.STATE);
    x.night();
    Due.same("seven are", Due.barn(x), "5 0 0 0 0 0 7 0 0 0 0 0 0 ");
    x.undo();
    Due.same("undone", Due.barn(x), "4 0 0 0 3 0 4 0 0 0 0 0 3 ");
  }

  private static void undoing() {
    Used x = Due.told("d24 3;d24 5;w1 1 1;", 3);
    String[] was = new String[8];
    was[0] = Due.barn(x);
    x.stands();
    was[1] = Due.barn(x);
    x.night();
    was[2] = Due.barn(x);
    Due.is("beats(3)", x.beats(3), ChurnedTime.NONE);
    was[3] = Due.barn(x);
    x.quarrels(1);
    was[4] = Due.barn(x);
    Due.is("beats(17)", x.beats(17), 4);
    was[5] = Due.barn(x);
    x.salts(2);
    was[6] = Due.barn(x);
    x.feeds(0);
    was[7] = Due.barn(x);
    Due.is("now(10)", x.now(10), 7);
    for (int i = 7; i > 0; i--) {
      Due.same("ahead of undo " + i, Due.barn(x), was[i]);
      Due.is("undo " + i, x.undo(), i - 1);
      Due.is("now(10) " + i, x.now(10), i - 1);
      Due.same("behind undo " + i, Due.barn(x), was[i - 1]);
    }
    Due.is("undo, none", x.undo(), ChurnedTime.STATE);
    Due.same("nothing changed", Due.barn(x), was[0]);
    Due.is("stands once more", x.stands(), 24);
  }

  private static void undoingRefused() {
    Used x = Due.told("d24 3;w0 1 1;", 2);
    x.beats(1);
    x.salts(1);
    x.quarrels(0);
    x.feeds(0);
    x.beats(0);
    Due.is("refused ones are not known", x.undo(), ChurnedTime.STATE);
    x.stands();
    x.stands();
    x.tasted(1, 1);
    x.keep(0);
    x.rate(0, 0);
    x.coming(0);
    x.menu(0);
    Due.is("only what is done is known", x.now(10), 1);
    Due.is("undo", x.undo(), 0);
    Due.is("tasted stays", x.count(4), 1);
    Due.is("trace stays", x.trace(), 1);
    Due.is("an image stays", x.again(0), 0);
    Due.is("as the image has it", x.now(1), 24);
  }

  private static void undoingTen() {
    Used x = Due.told("d24 3;", 1);
    for (int i = 1; i <= 23; i++) {
      x.quarrels(i % 2);
      Due.is("known " + i, x.now(10), Math.min(i, 10));
    }
    for (int i = 9; i >= 0; i--) {
      Due.is("undo", x.undo(), i);
      Due.is("quarrel", x.now(7), i % 2 == 0 ? 1 : 0);
    }
    Due.is("older ones are lost", x.undo(), ChurnedTime.STATE);
    Due.is("the quarrel stays", x.now(7), 1);
    x.stands();
    Due.is("known anew", x.now(10), 1);
    Due.is("undo", x.undo(), 0);
    Due.is("the quarrel still stays", x.now(7), 1);
    Due.is("hours do not", x.now(1), 0);
  }

  private static void nowAndFreshBad() {
    Used x = withCream("d24 5;d1 1;", 2);
    int[] bad = {-1, 11, Integer.MIN_VALUE, Integer.MAX_VALUE};
    for (int what : bad) Due.is("now " + what, x.now(what), ChurnedTime.BAD);
    int[] ages = {-1, 3, Integer.MIN_VALUE, Integer.MAX_VALUE};
    for (int age : ages) Due.is("fresh " + age, x.fresh(age), ChurnedTime.BAD);
  }
}
