// Long runs of calls on the class and on Model, which have to answer alike; the same runs each time.
public final class ModelTest {
  private static final int OBJECTS = 3000;
  // A step may make a few calls more than this; nothing is promised behind the 512th.
  private static final int CALLS = 490;

  private long seed;
  private final Used x = new Used();
  private final Model m = new Model();
  private final int run;
  private int calls = 0;

  private ModelTest(int run) {
    this.run = run;
    seed = 7919L * run + 17;
  }

  public static void main(String[] args) {
    for (int run = 0; run < OBJECTS; run++) new ModelTest(run).go();
    everyShare();
    everyBack();
    everyOdds();
    Due.end();
  }

  private int any(int below) {
    seed = seed * 6364136223846793005L + 1442695040888963407L;
    return (int) ((seed >>> 33) % below);
  }

  // Mostly from least to most; now and then just outside, or far.
  private int number(int least, int most) {
    switch (any(24)) {
      case 0: return least - 1;
      case 1: return most + 1;
      case 2: return any(8) == 0 ? Integer.MIN_VALUE + any(3) : least;
      case 3: return any(8) == 0 ? Integer.MAX_VALUE - any(3) : most;
      default: return least + any(most - least + 1);
    }
  }

  private void due(String call, long got, long want) {
    calls++;
    if (got != want) Due.is("run " + run + ", call " + calls + ", " + call, got, want);
  }

  private void go() {
    if (any(10) != 0) readText();
    while (calls < CALLS) {
      if (any(150) == 0) readText();
      else if (any(5) < 3) act();
      else ask();
    }
  }

  private void readText() {
    String text = someText();
    if (any(6) != 0) due("clear()", x.clear(), m.clear());
    for (int i = 0; i < text.length() && calls < CALLS; i++) {
      due("type", x.type(text.charAt(i)), m.type(text.charAt(i)));
    }
    due("dairy of " + text, x.dairy(), m.dairy());
  }

  private String someText() {
    StringBuilder text = new StringBuilder();
    int days = any(5) == 0 ? any(15) : 2 + any(9);
    for (int i = 0; i < days; i++) item(text, 'd', any(3) == 0 ? any(25) : 16 + any(9), any(2) == 0 ? 5 : any(10));
    int works = any(7);
    for (int i = 0; i < works; i++) {
      item(text, 'w', any(14), any(3) == 0 ? 1 + any(30) : 1 + any(9), any(3) == 0 ? any(4) : any(100));
    }
    if (any(2) == 0) item(text, 'f', 1 + any(5));
    int claims = any(5);
    for (int i = 0; i < claims; i++) item(text, 'c', 1 + any(any(2) == 0 ? 5 : 99));
    if (any(4) == 0 && text.length() > 0) spoil(text);
    return text.length() > 150 && any(5) != 0 ? text.substring(0, 150) : text.toString();
  }

  private void item(StringBuilder text, char letter, int... numbers) {
    StringBuilder item = new StringBuilder();
    item.append(letter);
    for (int i = 0; i < numbers.length; i++) {
      if (i > 0) item.append(' ');
      item.append(numbers[i]);
    }
    item.append(';');
    if (any(12) == 0) item.insert(any(2) * item.length(), ' ');
    text.insert(any(8) == 0 ? 0 : text.length(), item);
  }

  private void spoil(StringBuilder text) {
    int place = any(text.length());
    String letters = "dwfc;0123456789  dwfc;;x\u00ff\t";
    char letter = letters.charAt(any(letters.length()));
    switch (any(4)) {
      case 0:
        text.setCharAt(place, letter);
        break;
      case 1:
        text.insert(place, letter);
        break;
      case 2:
        text.deleteCharAt(place);
        break;
      default:
        text.setLength(place);
    }
  }

  private void act() {
    switch (any(12)) {
      case 0:
      case 1:
      case 2:
        due("stands()", x.stands(), m.stands());
        break;
      case 3:
      case 4:
        int n = any(2) == 0 ? 10 + any(20) : number(1, 99);
        due("beats(" + n + ")", x.beats(n), m.beats(n));
        break;
      case 5:
        int pounds = any(3) == 0 ? number(1, 99) : 1 + any(6);
        due("salts(" + pounds + ")", x.salts(pounds), m.salts(pounds));
        break;
      case 6:
        int is = number(0, 1);
        due("quarrels(" + is + ")", x.quarrels(is), m.quarrels(is));
        break;
      case 7:
        int w = number(0, 5);
        due("feeds(" + w + ")", x.feeds(w), m.feeds(w));
        break;
      case 8:
      case 9:
        due("night()", x.night(), m.night());
        break;
      case 10:
        for (int i = any(4) == 0 ? any(12) : 1; i > 0; i--) due("undo()", x.undo(), m.undo());
        break;
      default:
        int image = number(0, 1);
        if (any(2) == 0) due("keep(" + image + ")", x.keep(image), m.keep(image));
        else due("again(" + image + ")", x.again(image), m.again(image));
    }
    if (any(3) == 0) askNow();
  }

  private void askNow() {
    int what = number(0, 10);
    due("now(" + what + ")", x.now(what), m.now(what));
    int age = number(0, 2);
    due("fresh(" + age + ")", x.fresh(age), m.fresh(age));
  }

  private void ask() {
    int a = number(0, 13);
    int what = number(0, 1);
    switch (any(9)) {
      case 0:
        due("coming(" + a + ")", x.coming(a), m.coming(a));
        break;
      case 1:
        due("menu(" + what + ")", x.menu(what), m.menu(what));
        break;
      case 2:
        int set = number(1, 31);
        due("tasted(" + set + ", " + what + ")", x.tasted(set, what), m.tasted(set, what));
        if (any(8) == 0) due("forget()", x.forget(), m.forget());
        break;
      case 3:
        int cheats = number(0, 2);
        due("cheats(" + cheats + ")", x.cheats(cheats), m.cheats(cheats));
        due("taste()", x.taste(), m.taste());
        break;
      case 4:
        int pounds = number(0, 999);
        int c = number(0, 3);
        due("share(" + c + ", " + pounds + ")", x.share(c, pounds), m.share(c, pounds));
        break;
      case 5:
        int kind = number(0, 5);
        due("rate(" + kind + ", " + a + ")", x.rate(kind, a), m.rate(kind, a));
        due("trace()", x.trace(), m.trace());
        break;
      case 6:
        int of = number(0, 5);
        due("count(" + of + ")", x.count(of), m.count(of));
        int part = number(0, 3);
        due("work(" + of + ", " + part + ")", x.work(of, part), m.work(of, part));
        due("day(" + a + ", " + what + ")", x.day(a, what), m.day(a, what));
        break;
      case 7:
        int letter = number(0, 255);
        if (any(4) == 0) due("type(" + letter + ")", x.type(letter), m.type(letter));
        break;
      default:
        askNow();
    }
  }

  private static void everyShare() {
    for (String text : new String[] {"c1;", "c1;c2;", "c3;c3;c3;", "c99;c98;c97;c1;", "c7;c7;c8;c6;", "c2;c4;c4;c2;"}) {
      for (int n = 0; n <= 999; n += 100) shares(text, n, Math.min(n + 99, 999));
    }
  }

  private static void shares(String text, int least, int most) {
    Used x = new Used();
    Model m = new Model();
    for (char letter : text.toCharArray()) {
      x.type(letter);
      m.type(letter);
    }
    x.dairy();
    m.dairy();
    for (int n = least; n <= most; n++) {
      int sum = 0;
      for (int c = 0; c < m.count(3); c++) {
        int part = x.share(c, n);
        Due.is("share " + c + " of " + n + " by " + text, part, m.share(c, n));
        sum += part;
      }
      Due.is("all of " + n + " is shared by " + text, sum, n);
    }
  }

  private static void everyBack() {
    Model m = new Model();
    for (int u = 1; u <= 20; u++) {
      for (int v = 1; v <= 20; v++) {
        Used x = new Used();
        for (int i = 0; i < 12; i++) {
          int a = (37 * i + 11 * u + v) % 100;
          int b = (53 * i * i + 7 * v + 3 * u) % 100;
          for (int what = 0; what < 2; what++) {
            Due.is("back " + a + " " + b + " " + u + " " + v, x.back(a, b, u, v, what), m.back(a, b, u, v, what));
          }
        }
      }
    }
  }

  private static void everyOdds() {
    Model m = new Model();
    for (int n = 0; n <= 6; n++) {
      Used x = new Used();
      for (int t = 0; t <= 10; t++) {
        for (int k = 0; k <= 6; k++) {
          for (int what = 0; what < 2; what++) {
            Due.is("odds " + n + " " + t + " " + k, x.odds(n, t, k, what), m.odds(n, t, k, what));
          }
        }
      }
    }
  }
}
