import java.util.function.ToIntBiFunction;

/**
 * "An error ends everything at once; variables and written values stay as they are then": each error
 * in each place that a part can have. What must not be reached after it would set variable 4.
 */
public final class ErrorsTest {
  private static final String[] PAIRS = {"either", "and", "plus", "minus", "times", "less", "equal", "other"};
  private static final Due due = new Due();

  public static void main(String[] args) {
    for (int end : Scenes.ENDS) {
      if (end != 0) {
        inUnaries(end);
        inPairs(end);
        inLoops(end);
        inTernaries(end);
      }
    }
    due.end();
  }

  private static void inUnaries(int end) {
    place("assign", end, (m, bad) -> m.assign(4, bad));
    place("write", end, (m, bad) -> m.write(bad));
    place("not", end, (m, bad) -> m.not(bad));
    place("again", end, (m, bad) -> m.again(bad));
  }

  private static void inPairs(int end) {
    place("either, last", end, (m, bad) -> m.either(m.none(), bad));
    for (int i = 0; i < PAIRS.length; i++) {
      int kind = i;
      place(PAIRS[i] + ", first", end, (m, bad) -> m.g.binary(kind, bad, mark(m)));
      if (i > 0) {
        place(PAIRS[i] + ", last", end, (m, bad) -> m.g.binary(kind, m.num(1), bad));
      }
    }
  }

  private static void inLoops(int end) {
    place("limit, first", end, (m, bad) -> m.limit(bad, m.num(2)));
    place("limit, last", end, (m, bad) -> m.limit(mark(m), bad));
    place("every, first", end, (m, bad) -> m.every(bad, mark(m)));
    place("every, last", end, (m, bad) -> m.every(m.num(1), bad));
    place("while, first", end, (m, bad) -> m.whilst(bad, mark(m)));
    place("while, last", end, (m, bad) -> m.whilst(m.num(1), bad));
    place("then, first", end, (m, bad) -> m.then(bad, mark(m)));
    place("then, last", end, (m, bad) -> m.then(m.none(), bad));
  }

  private static void inTernaries(int end) {
    place("to, first", end, (m, bad) -> m.to(bad, mark(m), mark(m)));
    place("to, second", end, (m, bad) -> m.to(m.num(1), bad, mark(m)));
    place("to, third", end, (m, bad) -> m.to(m.num(1), m.num(2), bad));
    place("if, first", end, (m, bad) -> m.when(bad, mark(m), mark(m)));
    place("if, second", end, (m, bad) -> m.when(m.num(1), bad, mark(m)));
    place("if, third", end, (m, bad) -> m.when(m.none(), mark(m), bad));
  }

  private static int mark(Maker m) {
    return m.write(m.assign(4, m.num(9)));
  }

  private static void place(String place, int end, ToIntBiFunction<Maker, Integer> around) {
    Maker m = new Maker();
    int before = m.write(m.assign(3, m.num(5)));
    int middle = around.applyAsInt(m, Scenes.ending(m, end));
    int e = m.either(m.and(before, middle), mark(m));
    String what = end + " in " + place;
    due.answer(what + ": begin", m.g.begin(e, 200), 0);
    due.answer(what + ": next", m.g.next(), end);
    due.answer(what + ": next again", m.g.next(), end);
    due.answer(what + ": value", m.g.value(), 0);
    due.answer(what + ": what was set before it", m.g.variable(3), 5);
    due.answer(what + ": what would be set after it", m.g.variable(4), 0);
    due.answer(what + ": writes", m.g.writes(), end == -6 ? 32 : 1);
    due.answer(what + ": written before it", m.g.written(0), 5);
  }
}
