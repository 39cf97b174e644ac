// What an object answers, in one row of words, so that two objects can be held beside each other.
final class Seen {
  private Seen() {}

  // All that shows by calls that change nothing.
  static String now(Used x) {
    StringBuilder row = new StringBuilder("barn " + Due.barn(x) + "undone " + x.now(10));
    row.append(" counts");
    for (int what = 0; what <= 5; what++) row.append(' ').append(x.count(what));
    row.append(told(x)).append(" coming");
    int days = x.count(0);
    for (int d = 0; d < days; d++) row.append(' ').append(x.coming(d));
    row.append(" menu ").append(x.menu(0)).append(' ').append(x.menu(1)).append(" cheats");
    for (int what = 0; what <= 2; what++) row.append(' ').append(x.cheats(what));
    row.append(" taste ").append(x.taste()).append(" trace ").append(x.trace());
    return row.toString();
  }

  private static String told(Used x) {
    StringBuilder row = new StringBuilder(" days");
    int days = x.count(0);
    int works = x.count(1);
    int claims = x.count(3);
    for (int d = 0; d < days; d++) row.append(' ').append(x.day(d, 0)).append('.').append(x.day(d, 1));
    row.append(" works");
    for (int w = 0; w < works; w++) {
      for (int what = 0; what <= 3; what++) row.append(what == 0 ? ' ' : '.').append(x.work(w, what));
    }
    row.append(" shares");
    for (int c = 0; c < claims; c++) row.append(' ').append(x.share(c, 997));
    return row.toString();
  }

  // What only later calls show: it is used up by that.
  static String later(Used x) {
    StringBuilder row = new StringBuilder();
    // Where ten are known, to stand would lose the oldest.
    if (x.now(10) < 10) {
      int hours = x.stands();
      row.append("stands ").append(hours);
      if (hours >= 0) x.undo();
    }
    int known = x.now(10);
    for (int i = 0; i <= known; i++) row.append(" undo ").append(x.undo()).append(": ").append(Due.barn(x));
    for (int image = 0; image <= 1; image++) {
      int day = x.again(image);
      row.append(" again ").append(day);
      if (day >= 0) row.append(": ").append(Due.barn(x)).append("stands ").append(x.stands());
    }
    row.append(" dairy ").append(x.dairy()).append(told(x));
    return row.toString();
  }
}
