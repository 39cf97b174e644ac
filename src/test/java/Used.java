// A ChurnedTime whose calls are counted: the document promises nothing behind the 512th.
final class Used {
  private static final int MOST_CALLS = 512;

  private final ChurnedTime x = new ChurnedTime();
  private int calls = 0;

  private ChurnedTime once() {
    calls++;
    if (calls > MOST_CALLS) throw new IllegalStateException("a test asks one object too much");
    return x;
  }

  int type(int letter) {
    return once().type(letter);
  }

  int clear() {
    return once().clear();
  }

  int dairy() {
    return once().dairy();
  }

  int day(int d, int what) {
    return once().day(d, what);
  }

  int work(int w, int what) {
    return once().work(w, what);
  }

  int now(int what) {
    return once().now(what);
  }

  int fresh(int age) {
    return once().fresh(age);
  }

  int stands() {
    return once().stands();
  }

  int beats(int n) {
    return once().beats(n);
  }

  int salts(int n) {
    return once().salts(n);
  }

  int quarrels(int is) {
    return once().quarrels(is);
  }

  int feeds(int w) {
    return once().feeds(w);
  }

  int night() {
    return once().night();
  }

  int undo() {
    return once().undo();
  }

  int coming(int d) {
    return once().coming(d);
  }

  int menu(int what) {
    return once().menu(what);
  }

  int tasted(int set, int is) {
    return once().tasted(set, is);
  }

  int forget() {
    return once().forget();
  }

  int cheats(int what) {
    return once().cheats(what);
  }

  int taste() {
    return once().taste();
  }

  int share(int c, int n) {
    return once().share(c, n);
  }

  int back(int a, int b, int u, int v, int what) {
    return once().back(a, b, u, v, what);
  }

  int odds(int n, int x, int k, int what) {
    return once().odds(n, x, k, what);
  }

  int rate(int kind, int d) {
    return once().rate(kind, d);
  }

  int keep(int image) {
    return once().keep(image);
  }

  int again(int image) {
    return once().again(image);
  }

  int count(int what) {
    return once().count(what);
  }

  long trace() {
    return once().trace();
  }
}
