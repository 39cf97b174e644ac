// Promises 25 to 27 and 29: RATE, IMAGES, THE TRACE.
public final class KindsTest {
  public static void main(String[] args) {
    rates();
    ratesBad();
    traces();
    images();
    imagesKeepAll();
    imagesBad();
    imagesAndUndo();
    Due.end();
  }

  private static Used withCreamAndSalted() {
    Used x = Due.told("d23 5;d13 7;d9 2;", 3);
    x.stands();
    x.night();
    x.beats(16);
    x.salts(1);
    return x;
  }

  private static void rates() {
    Used x = withCreamAndSalted();
    Due.is("cream", x.now(2), 2);
    int[][] due = {{23, 13, 9}, {28, 20, 11}, {21, 11, 7}, {56, 40, 22}, {21, 12, 9}, {24, 14, 10}};
    for (int kind = 0; kind < 6; kind++) {
      for (int d = 0; d < 3; d++) Due.is("rate " + kind + " " + d, x.rate(kind, d), due[kind][d]);
    }
    x = Due.told("d24 5;d0 0;", 2);
    x.stands();
    x.night();
    Due.is("below 0", x.rate(2, 1), -12);
    Due.is("below 0", x.rate(4, 1), -11);
    Due.is("fresh ones don't count", x.rate(5, 0), 24);
  }

  private static void ratesBad() {
    Used x = withCreamAndSalted();
    int[] kinds = {-1, 6, Integer.MIN_VALUE, Integer.MAX_VALUE};
    for (int kind : kinds) Due.is("rate " + kind, x.rate(kind, 0), ChurnedTime.NO);
    int[] days = {-1, 3, 14, Integer.MIN_VALUE, Integer.MAX_VALUE};
    for (int kind = 0; kind < 6; kind++) {
      for (int d : days) Due.is("rate " + kind + " of " + d, x.rate(kind, d), ChurnedTime.NO);
    }
    Due.is("rate of no days", new Used().rate(0, 0), ChurnedTime.NO);
    Due.is("trace", x.trace(), 0);
  }

  private static void traces() {
    int[] due = {1, 11, 101, 1011, 10101, 100001};
    for (int kind = 0; kind < 6; kind++) {
      Used x = withCreamAndSalted();
      Due.is("trace", x.trace(), 0);
      x.rate(kind, 0);
      Due.is("trace of " + kind, x.trace(), due[kind]);
      x.rate(kind, 1);
      Due.is("trace of " + kind + " twice", x.trace(), 2 * due[kind]);
    }
    Used x = withCreamAndSalted();
    x.keep(0);
    x.quarrels(1);
    x.rate(3, 0);
    x.undo();
    Due.is("trace behind undo", x.trace(), 1011);
    x.again(0);
    Due.is("trace behind again", x.trace(), 1011);
    x.clear();
    x.dairy();
    Due.is("trace behind dairy", x.trace(), 1011);
    x = Due.told("d1 1;", 1);
    for (int i = 0; i < 400; i++) x.rate(4, 0);
    Due.is("trace of many", x.trace(), 4040400L);
  }

  private static void images() {
    Used x = withCreamAndSalted();
    String first = Due.barn(x);
    Due.is("keep(0)", x.keep(0), 1);
    x.stands();
    x.night();
    String second = Due.barn(x);
    Due.is("keep(1)", x.keep(1), 2);
    x.night();
    Due.is("again(0)", x.again(0), 1);
    Due.same("as image 0 has it", Due.barn(x), first);
    Due.is("again(1)", x.again(1), 2);
    Due.same("as image 1 has it", Due.barn(x), second);
    x.quarrels(1);
    x.salts(1);
    Due.is("again(1) once more", x.again(1), 2);
    Due.same("an image is not changed", Due.barn(x), second);
    x.again(0);
    Due.is("keep(1) anew", x.keep(1), 1);
    x.night();
    x.again(1);
    Due.same("image 1 is kept anew", Due.barn(x), first);
  }

  private static void imagesKeepAll() {
    Used x = Due.told("d24 5;d24 5;d24 5;d24 1;d7 3;w13 1 1;w13 2 2;f4;", 8);
    for (int d = 0; d < 4; d++) {
      x.stands();
      x.night();
      x.beats(30);
    }
    x.salts(2);
    x.quarrels(1);
    x.feeds(1);
    x.stands();
    x.undo();
    x.stands();
    x.beats(1);
    String all = Due.barn(x);
    x.keep(1);
    x.tasted(9, 1);
    x.rate(0, 0);
    x.type(100);
    x.quarrels(0);
    x.feeds(0);
    x.night();
    x.again(1);
    Due.same("all of section 2", Due.barn(x), all);
    Due.is("tasted is not kept", x.count(4), 1);
    Due.is("trace is not kept", x.trace(), 1);
    Due.is("letters are not kept", x.count(5), 1);
    Due.is("it stands already", x.stands(), ChurnedTime.STATE);
  }

  private static void imagesBad() {
    Used x = withCreamAndSalted();
    int[] bad = {-1, 2, Integer.MIN_VALUE, Integer.MAX_VALUE};
    for (int image : bad) {
      Due.is("keep " + image, x.keep(image), ChurnedTime.BAD);
      Due.is("again " + image, x.again(image), ChurnedTime.BAD);
    }
    Due.is("again(0)", x.again(0), ChurnedTime.STATE);
    Due.is("again(1)", x.again(1), ChurnedTime.STATE);
    int known = x.now(10);
    x.keep(1);
    Due.is("again(0), the other is kept", x.again(0), ChurnedTime.STATE);
    Due.is("refused, so undo is as it was", x.now(10), known);
  }

  private static void imagesAndUndo() {
    Used x = withCreamAndSalted();
    int known = x.now(10);
    x.keep(0);
    Due.is("keep is not known", x.now(10), known);
    Due.is("keep leaves undo", x.undo(), known - 1);
    Due.is("again", x.again(0), 1);
    Due.is("nothing known", x.now(10), 0);
    Due.is("nothing can be undone", x.undo(), ChurnedTime.STATE);
    x.quarrels(1);
    Due.is("known anew", x.now(10), 1);
    Due.is("undo", x.undo(), 0);
    Due.is("salted as kept", x.now(5), 1);
    Due.is("no more", x.undo(), ChurnedTime.STATE);
  }
}
