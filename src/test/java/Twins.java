import java.util.function.Consumer;
import java.util.function.ToLongFunction;

// Two objects used alike, of which one is then refused a call: nothing changes by that, so they stay alike.
final class Twins {
  private final String when;
  private final Consumer<Used> steps;

  Twins(String when, Consumer<Used> steps) {
    this.when = when;
    this.steps = steps;
  }

  Twins refuses(String call, long due, ToLongFunction<Used> ask) {
    Used refused = new Used();
    Used spared = new Used();
    steps.accept(refused);
    steps.accept(spared);
    Due.is(when + ": " + call, ask.applyAsLong(refused), due);
    Due.same(when + ": what shows behind " + call, Seen.now(refused), Seen.now(spared));
    Due.same(when + ": what shows later behind " + call, Seen.later(refused), Seen.later(spared));
    return this;
  }

  Twins bad(String call, ToLongFunction<Used> ask) {
    return refuses(call, ChurnedTime.BAD, ask);
  }

  Twins state(String call, ToLongFunction<Used> ask) {
    return refuses(call, ChurnedTime.STATE, ask);
  }

  Twins full(String call, ToLongFunction<Used> ask) {
    return refuses(call, ChurnedTime.FULL, ask);
  }
}
