import java.util.ArrayList;
import java.util.List;
import java.util.function.Consumer;

// Promise 15, sentence by sentence: "UNDONE: the latest stands(), beats(), salts(), quarrels(), feeds(), night()
// that was not refused (10 are known, older ones are lost)."
public final class UndoEdgesTest {
  private static final int STATE = ChurnedTime.STATE;

  public static void main(String[] args) {
    none();
    eachKind();
    latestFirst();
    tenKnown();
    eleventhLosesTheFirst();
    roundAndRound();
    undoneAndDoneAnew();
    refusedAreNotKnown();
    otherCallsAreNotKnown();
    otherCallsAreNotUndone();
    undoIsNotUndone();
    noneBehindReadingAnew();
    stillKnownBehindAFault();
    noneBehindAgain();
    stillKnownBehindARefusedAgain();
    acrossTheLastNight();
    asManyCallsAsArePromised();
    Due.end();
  }

  // "STATE: none."
  private static void none() {
    Used x = new Used();
    Due.is("nothing told", x.undo(), STATE);
    Due.is("now(10)", x.now(10), 0);
    Used y = Due.told("d24 5;", 1);
    Due.is("nothing done", y.undo(), STATE);
    y.stands();
    Due.is("the only one", y.undo(), 0);
    Due.is("none is left", y.undo(), STATE);
    Due.is("now(10)", y.now(10), 0);
  }

  // Day 2: 12 of cream, 8 strokes beaten, 2 pounds fresh of age 1, 2 salted, 18 hours that may stand; 7 calls known.
  private static Used inUse() {
    Used x = Due.told("d24 5;d24 5;d18 5;d0 5;w9 5 1;w9 2 1;", 6);
    x.stands();
    x.night();
    x.beats(10);
    x.salts(2);
    x.stands();
    x.night();
    x.beats(8);
    return x;
  }

  private static void eachKind() {
    undone("stands()", x -> Due.is("stands", x.stands(), 18));
    undone("beats() till it comes", x -> Due.is("comes", x.beats(2), 4));
    undone("beats() of none", x -> Due.is("comes not", x.beats(1), ChurnedTime.NONE));
    undone("salts()", x -> Due.is("salts", x.salts(2), 4));
    undone("quarrels(1)", x -> Due.is("quarrels", x.quarrels(1), 20));
    undone("feeds() of fresh ones", x -> Due.is("feeds", x.feeds(1), 2));
    undone("night()", x -> Due.is("night", x.night(), 3));
    Used y = inUse();
    y.quarrels(1);
    String was = Seen.now(y);
    y.quarrels(0);
    y.undo();
    Due.same("quarrels(0) undone", Seen.now(y), was);
    Used z = inUse();
    z.beats(2);
    was = Seen.now(z);
    Due.is("feeds", z.feeds(0), 3);
    z.undo();
    Due.same("feeds() of all ages undone", Seen.now(z), was);
    Used night = inUse();
    night.stands();
    night.night();
    Due.is("rancid as yet", night.now(6), 0);
    was = Seen.now(night);
    night.night();
    Due.is("rancid then", night.now(6), 2);
    night.undo();
    Due.same("night() undone", Seen.now(night), was);
  }

  private static void undone(String call, Consumer<Used> does) {
    Used x = inUse();
    String was = Seen.now(x);
    Due.is("known ahead of " + call, x.now(10), 7);
    does.accept(x);
    Due.is("known behind " + call, x.now(10), 8);
    Due.holds(call + " changes something", !Seen.now(x).equals(was));
    Due.is("undo() of " + call, x.undo(), 7);
    Due.same(call + " undone", Seen.now(x), was);
    does.accept(x);
    Due.is("known behind " + call + " once more", x.now(10), 8);
  }

  private static void latestFirst() {
    Used x = inUse();
    x.stands();
    x.quarrels(1);
    x.salts(1);
    Due.is("undo()", x.undo(), 9);
    Due.is("salted", x.now(5), 2);
    Due.is("quarrel", x.now(7), 1);
    Due.is("undo()", x.undo(), 8);
    Due.is("quarrel", x.now(7), 0);
    Due.is("hours", x.now(1), 18);
    Due.is("undo()", x.undo(), 7);
    Due.is("hours", x.now(1), 0);
    Due.is("beaten", x.now(3), 8);
    Due.is("undo()", x.undo(), 6);
    Due.is("beaten", x.now(3), 0);
    Due.is("THE DAY", x.now(0), 2);
    Due.is("undo()", x.undo(), 5);
    Due.is("THE DAY", x.now(0), 1);
    Due.is("they stand already", x.stands(), STATE);
    Due.is("undo()", x.undo(), 4);
    Due.is("they don't stand", x.stands(), 24);
  }

  // Strokes one by one: as many as are beaten tell how far it is undone.
  private static Used beaten(int strokes) {
    Used x = Due.told("d24 5;d24 0;", 2);
    x.stands();
    x.night();
    for (int i = 1; i <= strokes; i++) {
      Due.is("stroke " + i, x.beats(1), ChurnedTime.NONE);
      Due.is("known by stroke " + i, x.now(10), Math.min(i + 2, 10));
    }
    return x;
  }

  private static void tenKnown() {
    Used x = beaten(8);
    Due.is("ten are known", x.now(10), 10);
    for (int left = 9; left >= 2; left--) {
      Due.is("undo(), then " + left, x.undo(), left);
      Due.is("beaten", x.now(3), left - 2);
    }
    Due.is("undo() of the night", x.undo(), 1);
    Due.is("THE DAY", x.now(0), 0);
    Due.is("they stand", x.now(1), 24);
    Due.is("undo() of the first", x.undo(), 0);
    Due.is("nothing stands", x.now(1), 0);
    Due.is("none is left", x.undo(), STATE);
  }

  // "Older ones are lost."
  private static void eleventhLosesTheFirst() {
    Used x = beaten(9);
    Due.is("ten are known", x.now(10), 10);
    for (int left = 9; left >= 0; left--) Due.is("undo(), then " + left, x.undo(), left);
    Due.is("the first is lost", x.undo(), STATE);
    Due.is("THE DAY", x.now(0), 0);
    Due.is("they stand still", x.now(1), 24);
    Due.is("they stand already", x.stands(), STATE);
  }

  private static void roundAndRound() {
    for (int strokes = 8; strokes <= 24; strokes++) {
      Used x = beaten(strokes);
      for (int left = 9; left >= 0; left--) {
        Due.is("of " + strokes + ": undo(), then " + left, x.undo(), left);
        if (strokes >= 10) Due.is("of " + strokes + ": beaten", x.now(3), strokes - 10 + left);
      }
      Due.is("of " + strokes + ": none is left", x.undo(), STATE);
      if (strokes >= 10) Due.is("of " + strokes + ": beaten at the end", x.now(3), strokes - 10);
    }
  }

  // Ups and downs about the ten, beside a list that loses its first one.
  private static void undoneAndDoneAnew() {
    int[] done = {7, 5, 12, 1, 10, 3, 9, 2, 11, 4};
    int[] undone = {3, 8, 4, 2, 11, 1, 10, 3, 2, 12};
    Used x = Due.told("d24 5;", 1);
    List<Integer> past = new ArrayList<>();
    int quarrel = 0;
    for (int i = 0; i < done.length; i++) {
      for (int k = 0; k < done[i]; k++) {
        past.add(quarrel);
        if (past.size() > 10) past.remove(0);
        quarrel = 1 - quarrel;
        Due.is("quarrels", x.quarrels(quarrel), 10 + 10 * quarrel);
        Due.is("known", x.now(10), past.size());
      }
      for (int k = 0; k < undone[i]; k++) {
        Due.is("undo()", x.undo(), past.isEmpty() ? STATE : past.size() - 1);
        if (!past.isEmpty()) quarrel = past.remove(past.size() - 1);
        Due.is("quarrel", x.now(7), quarrel);
        Due.is("known", x.now(10), past.size());
      }
    }
  }

  private static void refusedAreNotKnown() {
    Used x = inUse();
    x.stands();
    Due.is("stands()", x.stands(), STATE);
    Due.is("salts(5)", x.salts(5), STATE);
    Due.is("salts(0)", x.salts(0), ChurnedTime.BAD);
    Due.is("quarrels(0)", x.quarrels(0), STATE);
    Due.is("quarrels(2)", x.quarrels(2), ChurnedTime.BAD);
    Due.is("feeds(0)", x.feeds(0), STATE);
    Due.is("feeds(2)", x.feeds(2), ChurnedTime.BAD);
    Due.is("beats(0)", x.beats(0), ChurnedTime.BAD);
    Due.is("again(0)", x.again(0), STATE);
    Due.is("known", x.now(10), 8);
    Due.is("undo() of stands()", x.undo(), 7);
    Due.is("nothing stands", x.now(1), 0);
  }

  private static void otherCallsAreNotKnown() {
    Used x = inUse();
    x.type('d');
    x.clear();
    x.day(0, 0);
    x.work(0, 0);
    x.now(0);
    x.fresh(0);
    x.coming(2);
    x.menu(0);
    x.tasted(1, 1);
    x.cheats(0);
    x.taste();
    x.forget();
    x.back(0, 9, 1, 1, 0);
    x.odds(1, 1, 1, 0);
    x.rate(3, 0);
    x.keep(0);
    x.keep(1);
    x.count(0);
    x.trace();
    Due.is("known", x.now(10), 7);
    Due.is("undo() of beats()", x.undo(), 6);
    Due.is("beaten", x.now(3), 0);
  }

  private static void otherCallsAreNotUndone() {
    Used x = inUse();
    x.quarrels(1);
    x.tasted(3, 1);
    x.rate(3, 0);
    x.keep(0);
    Due.type(x, "d1");
    Due.is("undo() of quarrels()", x.undo(), 7);
    Due.is("no quarrel", x.now(7), 0);
    Due.is("tasted still", x.count(4), 1);
    Due.is("the trace stays", x.trace(), 1011);
    Due.is("the text stays", x.count(5), 2);
    Due.is("the image stays", x.again(0), 2);
    Due.is("as it was kept", x.now(7), 1);
  }

  private static void undoIsNotUndone() {
    Used x = inUse();
    x.quarrels(1);
    x.undo();
    Due.is("known", x.now(10), 7);
    Due.is("undo()", x.undo(), 6);
    Due.is("no quarrel comes back", x.now(7), 0);
    Due.is("beaten", x.now(3), 0);
  }

  private static void noneBehindReadingAnew() {
    Used x = inUse();
    Due.type(x, "d5 5;");
    Due.is("dairy()", x.dairy(), 1);
    Due.is("known", x.now(10), 0);
    Due.is("undo()", x.undo(), STATE);
    Due.is("THE DAY", x.now(0), 0);
    x.stands();
    Due.is("known anew", x.now(10), 1);
    Due.is("undo()", x.undo(), 0);
    Due.is("no more", x.undo(), STATE);
  }

  private static void stillKnownBehindAFault() {
    Used x = inUse();
    Due.type(x, "d5 5;d");
    Due.is("dairy()", x.dairy(), -16);
    Due.is("known", x.now(10), 7);
    Due.is("undo()", x.undo(), 6);
    Due.is("beaten", x.now(3), 0);
  }

  // "Nothing can be UNDONE behind again()."
  private static void noneBehindAgain() {
    Used x = inUse();
    x.keep(0);
    Due.is("keep() leaves them", x.now(10), 7);
    x.quarrels(1);
    Due.is("again(0)", x.again(0), 2);
    Due.is("known", x.now(10), 0);
    Due.is("undo()", x.undo(), STATE);
    Due.is("beaten", x.now(3), 8);
    x.stands();
    x.night();
    Due.is("known anew", x.now(10), 2);
    Due.is("undo()", x.undo(), 1);
    Due.is("undo()", x.undo(), 0);
    Due.is("no more", x.undo(), STATE);
    Due.is("beaten as kept", x.now(3), 8);
  }

  private static void stillKnownBehindARefusedAgain() {
    Used x = inUse();
    Due.is("none was kept", x.again(0), STATE);
    Due.is("no such image", x.again(2), ChurnedTime.BAD);
    Due.is("known", x.now(10), 7);
    Due.is("undo()", x.undo(), 6);
  }

  private static void acrossTheLastNight() {
    Used x = Due.told("d24 5;", 1);
    x.stands();
    x.night();
    x.beats(10);
    x.salts(4);
    Due.same("over", Due.barn(x), "1 0 0 0 0 4 0 0 0 0 0 0 0 ");
    Due.is("undo()", x.undo(), 3);
    Due.same("fresh again", Due.barn(x), "1 0 0 0 4 0 0 0 0 0 4 0 0 ");
    Due.is("undo()", x.undo(), 2);
    Due.same("cream again", Due.barn(x), "1 0 12 0 0 0 0 0 0 10 0 0 0 ");
    Due.is("undo()", x.undo(), 1);
    Due.same("not over", Due.barn(x), "0 24 0 0 0 0 0 0 0 0 0 0 0 ");
    Due.is("coming()", x.coming(0), 0);
    Due.is("undo()", x.undo(), 0);
    Due.same("first", Due.barn(x), "0 0 0 0 0 0 0 0 0 0 0 0 0 ");
  }

  // "An object is used for at most 512 calls": the last of them answers as the others do.
  private static void asManyCallsAsArePromised() {
    Used x = Due.told("d24 5;", 1);
    int calls = 8;
    for (int quarrel = 1; calls < 510; calls++) {
      Due.is("call " + (calls + 1), x.quarrels(quarrel), 10 + 10 * quarrel);
      quarrel = 1 - quarrel;
    }
    Due.is("call 511", x.undo(), 9);
    Due.is("call 512", x.now(7), 1);
  }
}
