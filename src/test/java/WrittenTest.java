/** Promises 14 and 15: writes and written. */
public final class WrittenTest {
  private static final int MIN = Integer.MIN_VALUE;
  private static final int MAX = Integer.MAX_VALUE;
  private static final Due due = new Due();

  public static void main(String[] args) {
    beforeAnyBegin();
    afterBegin();
    afterRefusedBegin();
    afterEveryEnd();
    firstLastAndOneBeyond();
    thirtyTwo();
    thirtyTwoAreForgotten();
    anyInt();
    due.end();
  }

  private static void beforeAnyBegin() {
    due.written("new", new GoalSearch());
    due.written("before any begin", Scenes.made());
    GoalSearch g = Scenes.made();
    g.begin(5, 2001);
    g.next();
    due.written("after a first begin that is refused", g);
  }

  private static void afterBegin() {
    GoalSearch g = Scenes.begun();
    due.written("after begin", g);
    g.next();
    due.written("after a result", g, 1);
    g.skip(2);
    due.written("after more results", g, 1, 2, 3);
    g.begin(6, 5);
    due.written("after begin of another", g);
    due.answer("what was written before is gone", g.written(2), 4294967296L);
  }

  private static void afterRefusedBegin() {
    GoalSearch g = Scenes.midway();
    g.begin(0, 5);
    due.written("after -3", g, 1, 2);
    g.begin(99, 5);
    due.written("after -2", g, 1, 2);
    g.begin(5, -1);
    due.written("after -1", g, 1, 2);
  }

  private static void afterEveryEnd() {
    for (int end : Scenes.ENDS) {
      GoalSearch g = Scenes.ended(end);
      due.answer("writes after " + end, g.writes(), end == -6 ? 32 : 2);
      due.answer("the first after " + end, g.written(0), 4);
      due.answer("the second after " + end, g.written(1), 5);
      due.answer("the third after " + end, g.written(2), end == -6 ? 8 : 4294967296L);
    }
  }

  private static void firstLastAndOneBeyond() {
    for (int i : new int[] {-1, 2, 31, 32, MIN, MAX}) {
      due.noChange("written " + i, Scenes::midway, g -> g.written(i), 4294967296L);
    }
    due.noChange("written 0", Scenes::midway, g -> g.written(0), 1);
    due.noChange("written 1", Scenes::midway, g -> g.written(1), 2);
    due.noChange("writes", Scenes::midway, g -> g.writes(), 2);
  }

  private static void thirtyTwo() {
    Maker m = new Maker();
    m.g.begin(m.write(m.range(-2, 40, 1)), 100);
    due.answer("31 written", m.g.skip(31), 31);
    due.answer("the last place is empty", m.g.written(31), 4294967296L);
    due.answer("the 32nd", m.g.next(), 1);
    due.answer("writes", m.g.writes(), 32);
    due.answer("the last", m.g.written(31), 29);
    due.answer("one beyond the last", m.g.written(32), 4294967296L);
    due.answer("the 33rd", m.g.next(), -6);
    due.answer("writes after the error", m.g.writes(), 32);
    for (int i = 0; i < 32; i++) {
      due.answer("written " + i + " after the error", m.g.written(i), i - 2);
    }
    for (int i : new int[] {32, -1, MIN, MAX}) {
      due.answer("written " + i + " after the error", m.g.written(i), 4294967296L);
    }
  }

  private static void thirtyTwoAreForgotten() {
    Maker m = new Maker();
    int e = m.write(m.range(1, 32, 1));
    m.g.begin(e, 100);
    due.answer("32 written", m.g.skip(100), 32);
    due.answer("no error without another", m.g.next(), 0);
    due.answer("begin anew", m.g.begin(e, 100), 0);
    due.written("begun anew", m.g);
    due.answer("32 written anew", m.g.skip(100), 32);
    due.answer("writes", m.g.writes(), 32);
    due.answer("the last", m.g.written(31), 32);
  }

  private static void anyInt() {
    Maker m = new Maker();
    int ends = m.either(m.write(m.num(MIN)), m.write(m.num(MAX)));
    int all = m.either(ends, m.either(m.write(m.num(-1)), m.write(m.num(0))));
    due.run("any int", m.g, all, 9, 0, 4, MIN, MAX, -1, 0);
    due.written("any int", m.g, MIN, MAX, -1, 0);
  }
}
