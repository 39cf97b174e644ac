// What every test here shares: an answer beside the one that is due, and the end of a test.
final class Due {
  private static int wrong = 0;
  private static int asked = 0;

  private Due() {}

  static void is(String call, long got, long want) {
    asked++;
    if (got == want) return;
    wrong++;
    System.out.println(call + " answered " + got + ", due is " + want);
  }

  static void holds(String what, boolean is) {
    is(what, is ? 1 : 0, 1);
  }

  // Types a text; each letter has to be taken.
  static void type(Used x, String text) {
    int had = x.count(5);
    for (int i = 0; i < text.length(); i++) {
      int got = x.type(text.charAt(i));
      if (got != had + i + 1) is("type " + (had + i) + " of \"" + text + "\"", got, had + i + 1);
    }
  }

  // A new object that has read a text.
  static Used told(String text, int items) {
    Used x = new Used();
    type(x, text);
    is("dairy of \"" + text + "\"", x.dairy(), items);
    return x;
  }

  // What now() and fresh() say, in a row; all but how many may be UNDONE.
  static String barn(Used x) {
    StringBuilder row = new StringBuilder();
    for (int what = 0; what <= 9; what++) row.append(x.now(what)).append(' ');
    for (int age = 0; age <= 2; age++) row.append(x.fresh(age)).append(' ');
    return row.toString();
  }

  static void same(String what, String got, String want) {
    asked++;
    if (got.equals(want)) return;
    wrong++;
    System.out.println(what + " is " + got + ", due is " + want);
  }

  static void end() {
    System.out.println(asked + " asked, " + wrong + " wrong");
    if (wrong != 0) System.exit(1);
  }
}
