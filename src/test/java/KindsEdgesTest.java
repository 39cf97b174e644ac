// Promises 25 to 27 and 29, sentence by sentence: RATE, IMAGES, THE TRACE.
public final class KindsEdgesTest {
  private static final int BAD = ChurnedTime.BAD;
  private static final int STATE = ChurnedTime.STATE;
  private static final int NO = ChurnedTime.NO;
  private static final int[] FAR = {32, 256, 65536, -256, Integer.MIN_VALUE, Integer.MAX_VALUE};

  public static void main(String[] args) {
    rateKinds();
    rateBad();
    rateNoDays();
    rateFirstAndLastDay();
    rateOfAnyDay();
    rateByCreamNow();
    rateBySaltedNow();
    rateBelowNothing();
    traceAtFirst();
    traceOfEach();
    traceOfRefused();
    traceAddsUp();
    traceGoesOn();
    keepsBoth();
    keepBad();
    keepOver();
    keepChangesNothing();
    keepAnew();
    againBad();
    againNoneKept();
    againOfEach();
    againOften();
    againAllOfSectionTwo();
    againNothingElse();
    againUndoesNoMore();
    againOfFirst();
    imagesGone();
    imagesStayBehindAFault();
    Due.end();
  }

  // Day 1 of 3: 2 of cream, 2 pounds fresh, 1 salted.
  private static Used inUse() {
    Used x = Due.told("d23 5;d13 7;d9 2;", 3);
    x.stands();
    x.night();
    x.beats(16);
    x.salts(1);
    return x;
  }

  // Promise 25: each KIND by the one above.
  private static void rateKinds() {
    Used x = inUse();
    int[][] due = {{23, 13, 9}, {28, 20, 11}, {21, 11, 7}, {56, 40, 22}, {21, 12, 9}, {24, 14, 10}};
    for (int kind = 0; kind <= 5; kind++) {
      for (int d = 0; d <= 2; d++) Due.is("rate(" + kind + ", " + d + ")", x.rate(kind, d), due[kind][d]);
    }
  }

  // "NO: BAD."
  private static void rateBad() {
    Used x = inUse();
    for (int d = 0; d <= 2; d++) {
      Due.is("rate(-1, " + d + ")", x.rate(-1, d), NO);
      Due.is("rate(6, " + d + ")", x.rate(6, d), NO);
    }
    for (int kind = 0; kind <= 5; kind++) {
      Due.is("rate(" + kind + ", -1)", x.rate(kind, -1), NO);
      Due.is("rate(" + kind + ", 3)", x.rate(kind, 3), NO);
      for (int far : FAR) Due.is("rate(" + kind + ", " + far + ")", x.rate(kind, far), NO);
    }
    for (int far : FAR) Due.is("rate(" + far + ", 0)", x.rate(far, 0), NO);
    Due.is("rate(6, 3)", x.rate(6, 3), NO);
    Due.is("rate(-1, -1)", x.rate(-1, -1), NO);
    Due.is("trace()", x.trace(), 0);
  }

  private static void rateNoDays() {
    Used x = Due.told("w1 1 1;f1;c1;", 3);
    for (int kind = -1; kind <= 6; kind++) {
      for (int d = -1; d <= 1; d++) Due.is("no days: rate(" + kind + ", " + d + ")", x.rate(kind, d), NO);
    }
    Due.is("no days: trace()", x.trace(), 0);
  }

  private static void rateFirstAndLastDay() {
    Used x = Due.told("d24 9;d0 0;d0 0;d0 0;d0 0;d0 0;d0 0;d0 0;d0 0;d0 0;d0 0;d0 0;d0 0;d1 2;", 14);
    int[] first = {24, 33, 24, 66, 24, 24};
    int[] last = {1, 3, 1, 6, 14, 1};
    for (int kind = 0; kind <= 5; kind++) {
      Due.is("first: rate(" + kind + ", 0)", x.rate(kind, 0), first[kind]);
      Due.is("last: rate(" + kind + ", 13)", x.rate(kind, 13), last[kind]);
      Due.is("nothing: rate(" + kind + ", 5)", x.rate(kind, 5), kind == 4 ? 5 : 0);
      Due.is("behind the last: rate(" + kind + ", 14)", x.rate(kind, 14), NO);
    }
  }

  // Of DAYS gone by and to come, and when it is OVER.
  private static void rateOfAnyDay() {
    Used x = Due.told("d23 5;d13 7;", 2);
    for (int day = 0; day <= 2; day++) {
      Due.is("on " + day + ": rate(1, 0)", x.rate(1, 0), 28);
      Due.is("on " + day + ": rate(1, 1)", x.rate(1, 1), 20);
      Due.is("on " + day + ": rate(1, 2)", x.rate(1, 2), NO);
      x.night();
    }
  }

  private static void rateByCreamNow() {
    Used x = Due.told("d24 5;d6 5;", 2);
    Due.is("no cream: blue", x.rate(2, 1), 6);
    x.stands();
    Due.is("what stands is no cream", x.rate(2, 1), 6);
    x.night();
    Due.is("cream: blue", x.rate(2, 1), -6);
    Due.is("cream: april", x.rate(4, 1), -5);
    Due.is("cream: of another day", x.rate(2, 0), 12);
    x.beats(10);
    Due.is("it came: blue", x.rate(2, 1), 6);
    x.undo();
    Due.is("undone: blue", x.rate(2, 1), -6);
  }

  private static void rateBySaltedNow() {
    Used x = Due.told("d24 5;d6 5;", 2);
    x.stands();
    x.night();
    x.beats(10);
    Due.is("fresh ones don't count", x.rate(5, 1), 6);
    x.salts(3);
    Due.is("salted ones do", x.rate(5, 1), 9);
    x.undo();
    Due.is("undone", x.rate(5, 1), 6);
  }

  // "NO ... where a number may be below 0."
  private static void rateBelowNothing() {
    Used x = Due.told("d24 5;d24 5;d0 5;d2 5;", 4);
    x.stands();
    x.night();
    x.stands();
    x.night();
    Due.is("cream", x.now(2), 24);
    Due.is("just below", x.rate(2, 3), -22);
    Due.is("far below", x.rate(2, 2), -24);
    Due.is("april", x.rate(4, 2), -22);
    Due.is("none", x.rate(2, 0), 0);
  }

  // Promise 29: "THE TRACE, 0 at first."
  private static void traceAtFirst() {
    Due.is("new", new Used().trace(), 0);
    Used x = inUse();
    Due.is("in use", x.trace(), 0);
    x.coming(1);
    x.menu(0);
    x.day(0, 0);
    Due.is("other calls don't ask", x.trace(), 0);
  }

  // "As often as rate() asks that body: each once."
  private static void traceOfEach() {
    int[] due = {1, 11, 101, 1011, 10101, 100001};
    for (int kind = 0; kind <= 5; kind++) {
      Used x = inUse();
      x.rate(kind, 0);
      Due.is("of " + kind, x.trace(), due[kind]);
      x.rate(kind, 2);
      Due.is("of " + kind + " twice", x.trace(), 2L * due[kind]);
      Due.is("asked twice", x.trace(), 2L * due[kind]);
    }
  }

  private static void traceOfRefused() {
    Used x = inUse();
    x.rate(5, 0);
    for (int kind = -1; kind <= 6; kind++) {
      x.rate(kind, -1);
      x.rate(kind, 3);
    }
    x.rate(-1, 0);
    x.rate(6, 0);
    Due.is("trace()", x.trace(), 100001);
  }

  private static void traceAddsUp() {
    Used x = Due.told("d1 1;", 1);
    long due = 0;
    int[] adds = {1, 11, 101, 1011, 10101, 100001};
    for (int i = 0; i < 240; i++) {
      x.rate(i % 6, 0);
      due += adds[i % 6];
      Due.is("behind " + (i + 1), x.trace(), due);
    }
    Due.is("in all", x.trace(), 4449040);
    Used y = Due.told("d1 1;", 1);
    for (int i = 0; i < 500; i++) y.rate(5, 0);
    Due.is("500 times", y.trace(), 50000500);
  }

  // "THE TRACE goes on, as behind undo(), again()."
  private static void traceGoesOn() {
    Used x = inUse();
    x.keep(0);
    x.stands();
    x.rate(3, 0);
    x.undo();
    Due.is("behind undo()", x.trace(), 1011);
    x.again(0);
    Due.is("behind again()", x.trace(), 1011);
    x.dairy();
    Due.is("behind dairy()", x.trace(), 1011);
    Due.type(x, "d1 1;x");
    x.dairy();
    Due.is("behind a fault", x.trace(), 1011);
    x.clear();
    Due.is("behind clear()", x.trace(), 1011);
    Due.type(x, "d1 1;");
    x.dairy();
    x.rate(0, 0);
    Due.is("it goes on", x.trace(), 1012);
  }

  // Promise 26: "IMAGES 0, 1 keep NOW": "An IMAGE is kept: THE DAY. BAD."
  private static void keepsBoth() {
    Used x = Due.told("d24 5;d24 5;d24 5;", 3);
    Due.is("keep(0)", x.keep(0), 0);
    x.night();
    Due.is("keep(1)", x.keep(1), 1);
    x.night();
    Due.is("again(0)", x.again(0), 0);
    Due.is("again(1)", x.again(1), 1);
    Due.is("THE DAY", x.now(0), 1);
  }

  private static void keepBad() {
    Used x = inUse();
    Due.is("keep(-1)", x.keep(-1), BAD);
    Due.is("keep(2)", x.keep(2), BAD);
    for (int far : FAR) Due.is("keep(" + far + ")", x.keep(far), BAD);
    Due.is("none is kept by that", x.again(0), STATE);
    Due.is("none is kept by that", x.again(1), STATE);
  }

  private static void keepOver() {
    Used none = new Used();
    Due.is("no days: keep(0)", none.keep(0), 0);
    Due.is("no days: again(0)", none.again(0), 0);
    Used x = Due.told("d24 5;", 1);
    x.stands();
    x.night();
    Due.is("over: keep(1)", x.keep(1), 1);
    x.beats(10);
    x.undo();
    x.undo();
    Due.is("not over", x.now(0), 0);
    Due.is("over again", x.again(1), 1);
    Due.same("as kept", Due.barn(x), "1 0 12 0 0 0 0 0 0 10 0 0 0 ");
    Due.is("over", x.night(), STATE);
  }

  private static void keepChangesNothing() {
    Used x = inUse();
    String was = Seen.now(x);
    x.keep(0);
    Due.same("behind keep(0)", Seen.now(x), was);
    x.keep(1);
    x.keep(1);
    Due.same("behind keep(1) twice", Seen.now(x), was);
    Due.is("undo()", x.undo(), 3);
  }

  private static void keepAnew() {
    for (int image = 0; image <= 1; image++) {
      Used x = Due.told("d24 5;d24 5;d24 5;", 3);
      x.stands();
      x.keep(image);
      x.keep(1 - image);
      x.night();
      Due.is("kept anew", x.keep(image), 1);
      x.night();
      Due.is("as kept anew", x.again(image), 1);
      Due.is("cream", x.now(2), 12);
      Due.is("the other is as it was", x.again(1 - image), 0);
      Due.is("hours", x.now(1), 24);
    }
  }

  // Promise 27: "BAD; STATE: none was kept."
  private static void againBad() {
    Used x = inUse();
    x.keep(0);
    x.keep(1);
    Due.is("again(-1)", x.again(-1), BAD);
    Due.is("again(2)", x.again(2), BAD);
    for (int far : FAR) Due.is("again(" + far + ")", x.again(far), BAD);
    Due.is("known", x.now(10), 4);
  }

  private static void againNoneKept() {
    Used x = inUse();
    Due.is("again(0)", x.again(0), STATE);
    Due.is("again(1)", x.again(1), STATE);
    x.keep(1);
    Due.is("only the other", x.again(0), STATE);
    x.keep(0);
    Due.is("both", x.again(0), 1);
    Used y = inUse();
    y.keep(0);
    Due.is("only the other", y.again(1), STATE);
    Due.is("known", y.now(10), 4);
  }

  private static void againOfEach() {
    Used x = inUse();
    String first = Due.barn(x);
    x.keep(0);
    x.quarrels(1);
    x.stands();
    x.night();
    x.beats(99);
    String second = Due.barn(x);
    x.keep(1);
    x.night();
    Due.is("again(0)", x.again(0), 1);
    Due.same("as image 0 has it", Due.barn(x), first);
    Due.is("again(1)", x.again(1), 2);
    Due.same("as image 1 has it", Due.barn(x), second);
    Due.is("again(0)", x.again(0), 1);
    Due.same("as image 0 has it still", Due.barn(x), first);
  }

  // What is done behind again() changes no image.
  private static void againOften() {
    Used x = inUse();
    x.keep(1);
    String was = Due.barn(x);
    for (int i = 0; i < 4; i++) {
      x.stands();
      x.quarrels(1);
      x.beats(9);
      x.salts(1);
      x.night();
      Due.holds("something is changed", !Due.barn(x).equals(was));
      Due.is("again(1)", x.again(1), 1);
      Due.same("as it was kept", Due.barn(x), was);
    }
  }

  // "All of that becomes as an IMAGE has it": THE DAY, all of section 2.
  private static void againAllOfSectionTwo() {
    Used x = Due.told("d24 5;d24 5;d24 5;d24 1;d7 3;d9 9;w13 1 1;w13 2 2;", 8);
    for (int d = 0; d < 4; d++) {
      x.stands();
      x.night();
      x.beats(30);
    }
    x.salts(2);
    x.quarrels(1);
    x.feeds(1);
    x.stands();
    x.night();
    x.stands();
    x.beats(1);
    String was = Due.barn(x);
    Due.same("kept", was, "5 9 3 1 8 2 4 1 2 31 0 4 4 ");
    x.keep(0);
    x.beats(40);
    x.salts(9);
    x.quarrels(0);
    x.feeds(0);
    x.night();
    Due.same("changed", Due.barn(x), "6 0 4 0 0 10 4 0 3 10 0 0 0 ");
    x.again(0);
    Due.same("as kept", Due.barn(x), was);
    Due.is("they stand already", x.stands(), STATE);
    Due.is("work 1 is fed", x.work(1, 3), 1);
    Due.is("work 0 is not", x.work(0, 3), 0);
  }

  // "Nothing else."
  private static void againNothingElse() {
    Used x = inUse();
    x.tasted(1, 1);
    x.rate(0, 0);
    Due.type(x, "d");
    x.keep(0);
    x.tasted(2, 0);
    x.rate(5, 0);
    Due.type(x, "9");
    x.keep(1);
    x.again(0);
    Due.is("tasted", x.count(4), 2);
    Due.is("cheats(0)", x.cheats(0), 2);
    Due.is("trace()", x.trace(), 100002);
    Due.is("letters", x.count(5), 2);
    Due.is("the other image", x.again(1), 1);
    x.forget();
    x.clear();
    x.again(0);
    Due.is("nothing tasted", x.count(4), 0);
    Due.is("no letters", x.count(5), 0);
  }

  private static void againUndoesNoMore() {
    Used x = inUse();
    x.keep(0);
    Due.is("known", x.now(10), 4);
    x.again(0);
    Due.is("none known", x.now(10), 0);
    Due.is("undo()", x.undo(), STATE);
    for (int i = 1; i <= 12; i++) x.quarrels(i % 2);
    Due.is("ten known", x.now(10), 10);
    x.again(0);
    Due.is("none known", x.now(10), 0);
    Due.is("undo()", x.undo(), STATE);
    x.quarrels(1);
    Due.is("undo()", x.undo(), 0);
    Due.is("no more", x.undo(), STATE);
  }

  // The very first things, kept, wipe all that was done.
  private static void againOfFirst() {
    Used x = Due.told("d24 5;d24 5;d24 5;w9 1 1;", 4);
    x.keep(1);
    String was = Due.barn(x);
    x.stands();
    x.night();
    x.beats(10);
    x.salts(1);
    x.feeds(0);
    x.stands();
    x.night();
    x.beats(4);
    x.quarrels(1);
    x.again(1);
    Due.same("as at first", Due.barn(x), was);
    Due.is("stands()", x.stands(), 24);
    Due.is("quarrels(1)", x.quarrels(1), 20);
  }

  // "IMAGES are gone", read anew.
  private static void imagesGone() {
    Used x = inUse();
    x.keep(0);
    x.keep(1);
    Due.type(x, "d23 5;d13 7;d9 2;");
    Due.is("dairy()", x.dairy(), 3);
    Due.is("again(0)", x.again(0), STATE);
    Due.is("again(1)", x.again(1), STATE);
    x.stands();
    Due.is("keep(1)", x.keep(1), 0);
    Due.is("again(0)", x.again(0), STATE);
    Due.is("again(1)", x.again(1), 0);
    Due.is("hours", x.now(1), 23);
    Due.is("nothing typed", x.dairy(), 0);
    Due.is("again(1)", x.again(1), STATE);
  }

  private static void imagesStayBehindAFault() {
    Used x = inUse();
    x.keep(0);
    x.stands();
    x.keep(1);
    Due.type(x, "d1 1;;");
    Due.is("dairy()", x.dairy(), -15);
    Due.is("again(0)", x.again(0), 1);
    Due.is("nothing stands", x.now(1), 0);
    Due.is("again(1)", x.again(1), 1);
    Due.is("it stands", x.now(1), 13);
  }
}
