// Promises 1 to 4, sentence by sentence: a new object, THE TEXT, how it is read, FAULT.
public final class TextEdgesTest {
  private static final String FULL_TEXT =
      "d24 5;d0 0;d1 9;d23 8;d0 5;d24 0;d2 2;d3 3;d4 4;d6 6;d7 7;d8 8;d9 9;d10 1;"
      + "w0 1 0;w13 30 99;w1 2 3;w2 3 4;w3 4 5;w4 5 6;f5;c1;c99;c2;c3;";

  public static void main(String[] args) {
    asToldAtFirst();
    objectsAreApart();
    lettersTaken();
    lettersAtMost();
    roomAgain();
    clears();
    clearLeavesTheRest();
    nothingTyped();
    mostItems();
    mostItemsAndOneMore();
    mostLettersThatTell();
    numbersTaken();
    zeroAhead();
    aboveNinetyNine();
    blanksAnywhere();
    blanksNeeded();
    otherBlanks();
    otherLetters();
    tokensThatCantStand();
    endsTooEarly();
    firstFault();
    faultPlaces();
    faultLeavesTheText();
    emptyBehindIt();
    notToldIsAsAtFirst();
    notToldBehindAFault();
    readAnew();
    readAnewWhileAllIsInUse();
    readAnewAgainAndAgain();
    Due.end();
  }

  // Promise 1: "As told; no DAYS, no WORKS."
  private static void asToldAtFirst() {
    Used x = new Used();
    int[] counts = {0, 0, 3, 0, 0, 0};
    for (int what = 0; what <= 5; what++) Due.is("new: count(" + what + ")", x.count(what), counts[what]);
    for (int what = 0; what <= 10; what++) Due.is("new: now(" + what + ")", x.now(what), 0);
    for (int age = 0; age <= 2; age++) Due.is("new: fresh(" + age + ")", x.fresh(age), 0);
    Due.is("new: menu(0)", x.menu(0), 0);
    Due.is("new: menu(1)", x.menu(1), 0);
    Due.is("new: cheats(0)", x.cheats(0), 8);
    Due.is("new: cheats(1)", x.cheats(1), 0);
    Due.is("new: cheats(2)", x.cheats(2), 0);
    Due.is("new: taste()", x.taste(), 1);
    Due.is("new: trace()", x.trace(), 0);
    Due.is("new: forget()", x.forget(), 0);
    Due.is("new: clear()", x.clear(), 0);
    Due.is("new: over, strokes as by 5", x.quarrels(1), 20);
    Due.is("new: undo()", x.undo(), 0);
    Due.is("new: keep(0)", x.keep(0), 0);
    Due.is("new: keep(1)", x.keep(1), 0);
    Due.is("new: again(0)", x.again(0), 0);
  }

  private static void objectsAreApart() {
    Used first = new Used();
    Due.type(first, FULL_TEXT);
    first.dairy();
    first.stands();
    first.night();
    first.beats(99);
    first.quarrels(1);
    first.keep(0);
    first.keep(1);
    first.tasted(31, 1);
    first.rate(5, 0);
    Due.type(first, "d1");
    Used second = new Used();
    Due.same("a new one beside one in use", Seen.now(second),
        "barn 0 0 0 0 0 0 0 0 0 0 0 0 0 undone 0 counts 0 0 3 0 0 0 days works shares coming menu 0 0 "
        + "cheats 8 0 0 taste 1 trace 0");
    Due.is("image of another", second.again(0), ChurnedTime.STATE);
    Due.is("what another did", second.undo(), ChurnedTime.STATE);
    Due.is("text of another", second.dairy(), 0);
    Due.is("the first has its days", first.count(0), 14);
    Due.is("the first has its text", first.count(5), 2);
    Due.is("the first can undo", first.undo(), 3);
  }

  // Promise 2: "A letter (0 .. 255) comes to THE TEXT: how many it has."
  private static void lettersTaken() {
    Used low = new Used();
    Used high = new Used();
    for (int letter = 0; letter < 128; letter++) {
      Due.is("type(" + letter + ")", low.type(letter), letter + 1);
      Due.is("type(" + (letter + 128) + ")", high.type(letter + 128), letter + 1);
    }
    Due.is("128 letters", low.count(5), 128);
    Used x = new Used();
    int[] bad = {-1, 256, 256 + 'd', 'd' - 256, 65536, Integer.MIN_VALUE, Integer.MAX_VALUE};
    for (int letter : bad) Due.is("type(" + letter + ")", x.type(letter), ChurnedTime.BAD);
    Due.is("no letter came", x.count(5), 0);
    Due.is("type(0)", x.type(0), 1);
    Due.is("type(255)", x.type(255), 2);
  }

  // "A text (150 letters at most)."
  private static void lettersAtMost() {
    Used x = new Used();
    for (int i = 1; i <= 149; i++) x.type(' ');
    Due.is("149 letters", x.count(5), 149);
    Due.is("the 150th", x.type(' '), 150);
    Due.is("the 151st", x.type(' '), ChurnedTime.FULL);
    Due.is("once more", x.type('d'), ChurnedTime.FULL);
    Due.is("150 letters", x.count(5), 150);
    Due.is("the 151st is not read", x.dairy(), 0);
  }

  private static void roomAgain() {
    Used x = new Used();
    for (int i = 1; i <= 150; i++) x.type(' ');
    Due.is("clear()", x.clear(), 150);
    Due.is("room behind clear()", x.type('d'), 1);
    for (int i = 2; i <= 150; i++) Due.is("letter " + i + " behind clear()", x.type('d'), i);
    Due.is("full once more", x.type('d'), ChurnedTime.FULL);
    Used y = new Used();
    for (int i = 1; i <= 150; i++) y.type(' ');
    Due.is("150 blanks", y.dairy(), 0);
    for (int i = 1; i <= 150; i++) Due.is("letter " + i + " behind dairy()", y.type(' '), i);
    Due.is("full once more", y.type(' '), ChurnedTime.FULL);
    Used z = new Used();
    for (int i = 1; i <= 150; i++) z.type('x');
    Due.is("a fault", z.dairy(), -10);
    Due.is("no room behind a fault", z.type('x'), ChurnedTime.FULL);
  }

  // Promise 3: "THE TEXT is empty: how many letters it had."
  private static void clears() {
    Used x = new Used();
    Due.is("clear() of none", x.clear(), 0);
    x.type('x');
    Due.is("clear() of one", x.clear(), 1);
    Due.is("clear() twice", x.clear(), 0);
    for (int i = 1; i <= 150; i++) x.type('x');
    Due.is("clear() of 150", x.clear(), 150);
    Due.is("count(5)", x.count(5), 0);
    Due.is("nothing is left to read", x.dairy(), 0);
    Due.type(x, "c1");
    Due.is("a fault", x.dairy(), -12);
    Due.is("clear() behind a fault", x.clear(), 2);
    Due.type(x, "c2;");
    Due.is("the letters ahead of clear() are gone", x.dairy(), 1);
  }

  private static void clearLeavesTheRest() {
    new Twins("told and in use", x -> {
      Due.type(x, "d24 5;d20 7;w1 1 9;f4;c3;c4;");
      x.dairy();
      x.stands();
      x.night();
      x.beats(9);
      x.keep(0);
      x.tasted(3, 1);
      x.rate(1, 1);
    }).refuses("clear() of none", 0, Used::clear);
  }

  // Promise 4: "THE TEXT tells all anew, and is empty then: how many ITEMS."
  private static void nothingTyped() {
    Used x = new Used();
    Due.is("nothing typed", x.dairy(), 0);
    Due.is("nothing typed twice", x.dairy(), 0);
    x.type(' ');
    Due.is("one blank", x.dairy(), 0);
    Due.is("it is gone", x.count(5), 0);
    int[] counts = {0, 0, 3, 0, 0, 0};
    for (int what = 0; what <= 5; what++) Due.is("nothing told: " + what, x.count(what), counts[what]);
  }

  private static void mostItems() {
    Used x = Due.told(FULL_TEXT, 25);
    int[] counts = {14, 6, 5, 4, 0, 0};
    for (int what = 0; what <= 5; what++) Due.is("25 items: count(" + what + ")", x.count(what), counts[what]);
    int[] hours = {24, 0, 1, 23, 0, 24, 2, 3, 4, 6, 7, 8, 9, 10};
    int[] warmth = {5, 0, 9, 8, 5, 0, 2, 3, 4, 6, 7, 8, 9, 1};
    for (int d = 0; d < 14; d++) {
      Due.is("hours of " + d, x.day(d, 0), hours[d]);
      Due.is("warmth of " + d, x.day(d, 1), warmth[d]);
    }
    int[][] works = {{0, 1, 0}, {13, 30, 99}, {1, 2, 3}, {2, 3, 4}, {3, 4, 5}, {4, 5, 6}};
    for (int w = 0; w < 6; w++) {
      for (int what = 0; what < 3; what++) Due.is("work " + w + " " + what, x.work(w, what), works[w][what]);
    }
    int[] shares = {9, 942, 19, 29};
    for (int c = 0; c < 4; c++) Due.is("share of " + c, x.share(c, 999), shares[c]);
  }

  // "A fifteenth d, a seventh w, f again, a fifth c."
  private static void mostItemsAndOneMore() {
    String days = "d1 1;d1 1;d1 1;d1 1;d1 1;d1 1;d1 1;d1 1;d1 1;d1 1;d1 1;d1 1;d1 1;d1 1;";
    taken(days, 14);
    fault(days + "d1 1;", 70);
    fault(days + "  d", 72);
    fault(days + "c1;w1 1 1;f1;d", 83);
    String works = "w1 1 1;w1 1 1;w1 1 1;w1 1 1;w1 1 1;w1 1 1;";
    taken(works, 6);
    fault(works + "w1 1 1;", 42);
    fault(works + "d1 1;f2;c2; w", 54);
    taken("f1;", 1);
    fault("f1;f1;", 3);
    fault("f3;f3;", 3);
    fault("c1;f5;d1 1;f", 11);
    taken("c1;c1;c1;c1;", 4);
    fault("c1;c1;c1;c1;c1;", 12);
    fault("c1;c1;c1;c1;w1 1 1;c", 19);
    taken(days + works + "f1;c1;c1;c1;c1;", 25);
    taken("c1;c1;c1;c1;f1;" + works + days, 25);
  }

  private static void mostLettersThatTell() {
    String text = FULL_TEXT;
    while (text.length() < 149) text = " " + text;
    taken(text, 25);
    taken(text + " ", 25);
    Used x = new Used();
    Due.type(x, text + " ");
    Due.is("150 letters", x.count(5), 150);
    Due.is("one more", x.type(';'), ChurnedTime.FULL);
    Due.is("all 150 are read", x.dairy(), 25);
    StringBuilder early = new StringBuilder(text);
    early.setCharAt(148, ' ');
    fault(early + "d", 149);
    fault(early + " ", 150);
    fault(text + "x", 149);
    fault(text + ";", 149);
    taken(early + ";", 25);
  }

  private static void taken(String text, int items) {
    Due.told(text, items);
  }

  private static void fault(String text, int place) {
    Used x = new Used();
    Due.type(x, text);
    Due.is("dairy() of \"" + text + "\"", x.dairy(), -10 - place);
    Due.is("letters of \"" + text + "\"", x.count(5), text.length());
  }

  // "HOURS (0 .. 24), WARMTH (0 .. 9)", "DUE (0 .. 13), POUNDS (1 .. 30), WORTH (0 .. 99)", "DAIRIES (1 .. 5)",
  // "1 .. 99 years"; "a NUMBER beyond what it may be, too".
  private static void numbersTaken() {
    range("d# 5;", 0, 24);
    range("d24 #;", 0, 9);
    range("w# 1 0;", 0, 13);
    range("w13 # 0;", 1, 30);
    range("w0 30 #;", 0, 99);
    range("f#;", 1, 5);
    range("c#;", 1, 99);
  }

  private static void range(String text, int least, int most) {
    int place = text.indexOf('#');
    for (int n = 0; n <= 110; n++) {
      String whole = text.replace("#", "" + n);
      if (n >= least && n <= most) taken(whole, 1);
      else fault(whole, place);
    }
    for (String far : new String[] {"-1", "255", "256", "257", "65537", "2147483648", "4294967297"}) {
      fault(text.replace("#", far), place);
    }
  }

  // "A NUMBER ... with a 0 ahead of others."
  private static void zeroAhead() {
    String[] texts = {"d# 5;", "d24 #;", "w# 1 0;", "w13 # 0;", "w0 30 #;", "f#;", "c#;"};
    String[] numbers = {"00", "01", "05", "09", "010", "000", "0000000001"};
    for (String text : texts) {
      for (String n : numbers) fault(text.replace("#", n), text.indexOf('#'));
    }
    taken("d0 0;w0 1 0;", 2);
    taken("d10 0;w10 10 10;c10;", 3);
    taken("d20 0;w0 20 90;c20;", 3);
  }

  private static void aboveNinetyNine() {
    taken("w0 1 99;c99;", 2);
    fault("w0 1 100;", 5);
    fault("c100;", 1);
    fault("c 100 ;", 2);
    fault("100", 0);
    fault("c1 100;", 3);
    fault("c1;100", 3);
    fault("c99999999999999999999;", 1);
    fault("c4294967297;", 1);
    fault("c18446744073709551617;", 1);
    fault("c1000000000000000000000000000000000000000000000001;", 1);
  }

  // "Blanks (32), any number, ahead of, between, behind TOKENS."
  private static void blanksAnywhere() {
    Used x = Due.told("   d    13   9   ;   w 13  30   99 ;f   5;c    98   ;   ", 4);
    Due.is("hours", x.day(0, 0), 13);
    Due.is("warmth", x.day(0, 1), 9);
    Due.is("due", x.work(0, 0), 13);
    Due.is("pounds", x.work(0, 1), 30);
    Due.is("worth", x.work(0, 2), 99);
    Due.is("dairies", x.count(2), 5);
    Due.is("share", x.share(0, 9), 9);
    taken(" c1;", 1);
    taken("c1; ", 1);
    taken("c 1;", 1);
    taken("c1 ;", 1);
    taken("c1; c1;", 2);
    taken("d1                                                                         1;", 1);
  }

  // "Needed only between two NUMBERS."
  private static void blanksNeeded() {
    taken("d24 9;d0 0;w13 30 99;f5;c99;", 5);
    fault("d249;", 1);
    fault("d11;", 3);
    fault("d2 4 9;", 5);
    fault("c9 9;", 3);
    fault("w1330 99;", 1);
    fault("w13 3099;", 4);
  }

  // Only 32 is a blank.
  private static void otherBlanks() {
    char[] others = {0, 8, 9, 10, 11, 12, 13, 31, 33, 127, 160, 255};
    for (char other : others) {
      fault(other + "c1;", 0);
      fault("c" + other + "1;", 1);
      fault("c1" + other + ";", 2);
      fault("c1;" + other, 3);
      fault("d1" + other + "1;", 2);
      fault("  " + other, 2);
    }
  }

  // "Of any other letter ... that TOKEN's."
  private static void otherLetters() {
    for (char letter = 0; letter <= 255; letter++) {
      if (letter == ' ' || letter == ';' || "dwfc0123456789".indexOf(letter) >= 0) continue;
      fault("c1;" + letter, 3);
      fault("d5" + letter, 2);
    }
  }

  private static void tokensThatCantStand() {
    fault(";", 0);
    fault("  ;", 2);
    fault("c1;;", 3);
    fault("c1; ;", 4);
    fault("0", 0);
    fault("c1;7;", 3);
    for (char first : new char[] {'d', 'w', 'f', 'c'}) {
      for (char second : new char[] {'d', 'w', 'f', 'c', ';'}) {
        fault("" + first + second, 1);
        fault(first + "1" + second + (second == ';' ? "x" : ""), second == ';' && (first == 'f' || first == 'c') ? 3 : 2);
      }
    }
    fault("d1 2d", 4);
    fault("d1;", 2);
    fault("d1 2 3;", 5);
    fault("w1 2;", 4);
    fault("w1 2w", 4);
    fault("w1 2 3w", 6);
    fault("w1 2 3 4;", 7);
    fault("f1 2;", 3);
    fault("c1 2;", 3);
    fault("c1c", 2);
  }

  // "The text's length, if it ends too early."
  private static void endsTooEarly() {
    for (String item : new String[] {"d24 5;", "w13 30 99;", "f5;", "c99;", "d 0 0 ;", " w 0 1 0 ;"}) {
      for (int length = 1; length < item.length(); length++) {
        String early = item.substring(0, length);
        if (early.isBlank()) taken(early, 0);
        else fault(early, length);
        if (!early.isBlank()) fault("c1;" + early + "  ", length + 5);
      }
      taken(item, 1);
    }
  }

  // "The first TOKEN that can't stand there."
  private static void firstFault() {
    fault("d25 10;", 1);
    fault("d24 10;x", 4);
    fault("c1;x d99 0", 3);
    fault("c1; d99 x", 5);
    fault("c1; 05 x", 4);
    fault("d;x", 1);
    fault("dx;", 1);
    fault("w14 31 100", 1);
    fault("w13 31 100", 4);
    fault("w13 30 100", 7);
    fault("f6;f6;", 1);
    fault("f5;f6;", 3);
    fault("c0;c100;", 1);
  }

  private static void faultPlaces() {
    for (int place = 0; place < 150; place++) {
      fault(" ".repeat(place) + "x", place);
      if (place % 10 == 0 || place == 149) fault(" ".repeat(place) + "d", place + 1);
    }
  }

  // "-10 less FAULT: nothing changes (THE TEXT stays, too)."
  private static void faultLeavesTheText() {
    Used x = new Used();
    Due.type(x, "d24 5;w1 2");
    Due.is("too early an end", x.dairy(), -20);
    Due.is("once more", x.dairy(), -20);
    Due.is("the text stays", x.count(5), 10);
    Due.is("nothing is told", x.count(0), 0);
    Due.type(x, " 3;");
    Due.is("it goes on", x.dairy(), 2);
    Due.is("a day is told", x.count(0), 1);
    Due.is("a work is told", x.work(0, 2), 3);
    Due.type(x, "d1 1;f2;c5;w1 1 1;x");
    Due.is("a fault at the end", x.dairy(), -28);
    int[] counts = {1, 1, 3, 0, 0, 19};
    for (int what = 0; what <= 5; what++) Due.is("behind the fault: " + what, x.count(what), counts[what]);
    Due.is("hours stay", x.day(0, 0), 24);
    Due.is("worth stays", x.work(0, 2), 3);
    Due.is("clear()", x.clear(), 19);
    Due.is("nothing tells all anew", x.dairy(), 0);
  }

  private static void emptyBehindIt() {
    Used x = new Used();
    Due.type(x, "d24 5;");
    Due.is("dairy()", x.dairy(), 1);
    Due.is("the text is empty", x.count(5), 0);
    Due.is("the first letter of the next", x.type('c'), 1);
    Due.is("only that is read", x.dairy(), -11);
    Due.is("the day is told still", x.count(0), 1);
  }

  // "As told (what is not told as at first)."
  private static void notToldIsAsAtFirst() {
    String[] texts = {"d3 4;", "w5 6 7;", "f2;", "c8;", "", "  "};
    int[][] counts = {{1, 0, 3, 0}, {0, 1, 3, 0}, {0, 0, 2, 0}, {0, 0, 3, 1}, {0, 0, 3, 0}, {0, 0, 3, 0}};
    for (int i = 0; i < texts.length; i++) {
      Used x = new Used();
      Due.type(x, FULL_TEXT);
      x.dairy();
      Due.type(x, texts[i]);
      Due.is("then \"" + texts[i] + "\"", x.dairy(), texts[i].isBlank() ? 0 : 1);
      for (int what = 0; what <= 3; what++) {
        Due.is("then \"" + texts[i] + "\": count(" + what + ")", x.count(what), counts[i][what]);
      }
      Due.is("day behind what is told", x.day(counts[i][0], 0), ChurnedTime.BAD);
      Due.is("work behind what is told", x.work(counts[i][1], 0), ChurnedTime.BAD);
      Due.is("claim behind what is told", x.share(counts[i][3], 1), ChurnedTime.BAD);
      Due.is("dairies behind what is told", x.tasted(1 << counts[i][2], 1), ChurnedTime.BAD);
      Due.is("f is not told as yet", tellsDairies(x), 1);
    }
  }

  private static int tellsDairies(Used x) {
    Due.type(x, "f4;");
    return x.dairy();
  }

  // What a text with a FAULT tells is not told, then or by the next text.
  private static void notToldBehindAFault() {
    for (String fault : new String[] {"d1 1;w1 1 1;f5;c1;x", "d1 1;w1 1 1;f5;c1;f", "d1 1;w1 1 1;f5;c1;c"}) {
      for (String text : new String[] {"", "d2 2;", "w2 2 2;", "c2;"}) {
        Used x = new Used();
        Due.type(x, fault);
        Due.holds("a fault", x.dairy() < -9);
        x.clear();
        Due.type(x, text);
        Due.is("then \"" + text + "\"", x.dairy(), text.isEmpty() ? 0 : 1);
        Due.same("all as told by \"" + text + "\" alone", Seen.now(x), Seen.now(Due.told(text, text.isEmpty() ? 0 : 1)));
      }
    }
  }

  // "Read anew: ... DAY 0, nothing TASTED, IMAGES are gone, nothing can be UNDONE; THE TRACE goes on."
  private static void readAnew() {
    String text = "d24 5;d20 7;d19 3;d24 5;w3 1 9;w1 2 8;f4;c10;c20;";
    Used x = Due.told(text, 9);
    x.stands();
    x.night();
    x.beats(16);
    x.feeds(1);
    x.stands();
    x.keep(0);
    x.night();
    x.beats(17);
    x.salts(1);
    x.keep(1);
    x.night();
    x.night();
    x.beats(5);
    x.quarrels(1);
    x.tasted(3, 1);
    Due.same("ahead", Due.barn(x), "4 0 1 5 3 1 1 1 2 15 0 0 3 ");
    Due.type(x, text);
    Due.is("read anew", x.dairy(), 9);
    Used y = Due.told(text, 9);
    Due.same("what shows", Seen.now(x), Seen.now(y));
    Due.same("what shows later", Seen.later(x), Seen.later(y));
    Used z = Due.told("d1 1;", 1);
    z.rate(5, 0);
    Due.type(z, "d2 2;");
    z.dairy();
    Due.is("the trace stays", z.trace(), 100001);
    z.rate(0, 0);
    Due.is("the trace goes on", z.trace(), 100002);
  }

  // Pounds of each age, hours that stand, strokes, a quarrel: none is left.
  private static void readAnewWhileAllIsInUse() {
    String text = "d24 5;d24 5;d24 5;d24 5;d20 5;w13 1 1;";
    Used x = Due.told(text, 6);
    for (int d = 0; d < 4; d++) {
      x.stands();
      x.night();
      if (d < 3) x.beats(10);
    }
    x.salts(2);
    x.feeds(0);
    x.beats(11);
    x.quarrels(1);
    x.stands();
    x.night();
    x.undo();
    Due.same("ahead", Due.barn(x), "4 20 0 0 9 2 4 1 1 0 4 4 1 ");
    x.keep(0);
    x.keep(1);
    Due.type(x, text);
    Due.is("read anew", x.dairy(), 6);
    Due.same("barn", Due.barn(x), "0 0 0 0 0 0 0 0 0 0 0 0 0 ");
    Due.is("they don't stand already", x.stands(), 24);
    x.undo();
    Used y = Due.told(text, 6);
    Due.same("what shows", Seen.now(x), Seen.now(y));
    Due.same("what shows later", Seen.later(x), Seen.later(y));
    Used z = Due.told("d24 5;d24 5;", 2);
    z.stands();
    z.night();
    z.beats(9);
    Due.same("strokes and cream", Due.barn(z), "1 0 12 9 0 0 0 0 0 1 0 0 0 ");
    Due.is("nothing typed", z.dairy(), 0);
    Due.same("barn", Due.barn(z), "0 0 0 0 0 0 0 0 0 0 0 0 0 ");
  }

  // No text leaves anything to those behind it.
  private static void readAnewAgainAndAgain() {
    String[] texts = {FULL_TEXT, "", "c7;", FULL_TEXT, "f2;", "", "", "d1 2;", "f1;w1 2 3;", "w4 5 6;", "c1;c2;", "d9 9;"};
    Used x = new Used();
    for (String text : texts) {
      Due.type(x, text);
      x.dairy();
      Used y = new Used();
      Due.type(y, text);
      y.dairy();
      for (int what = 0; what <= 5; what++) {
        Due.is("by \"" + text + "\": count(" + what + ")", x.count(what), y.count(what));
      }
      Due.is("by \"" + text + "\": cheats", x.cheats(0), 1 << y.count(2));
      Due.is("by \"" + text + "\": hours", x.day(0, 0), y.day(0, 0));
      Due.is("by \"" + text + "\": pounds", x.work(0, 1), y.work(0, 1));
      Due.is("by \"" + text + "\": share", x.share(0, 99), y.share(0, 99));
    }
  }
}
