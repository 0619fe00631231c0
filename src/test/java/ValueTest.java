/** Promise 13: value. */
public final class ValueTest {
  private static final int MIN = Integer.MIN_VALUE;
  private static final int MAX = Integer.MAX_VALUE;
  private static final Due due = new Due();

  public static void main(String[] args) {
    beforeAnyBegin();
    afterBegin();
    afterRefusedBegin();
    afterEveryEnd();
    endsWithoutAnyResult();
    anyInt();
    due.end();
  }

  private static void beforeAnyBegin() {
    due.answer("value of the new", new GoalSearch().value(), 0);
    due.answer("value before any begin", Scenes.made().value(), 0);
    GoalSearch g = Scenes.made();
    g.begin(0, 5);
    g.next();
    due.answer("value after a first begin that is refused", g.value(), 0);
  }

  private static void afterBegin() {
    GoalSearch g = Scenes.begun();
    due.answer("value after begin", g.value(), 0);
    g.next();
    due.answer("value after a result", g.value(), 1);
    due.answer("value does not change by itself", g.value(), 1);
    g.skip(2);
    due.answer("value after more results", g.value(), 3);
    g.begin(6, 5);
    due.answer("value after begin of another", g.value(), 0);
  }

  private static void afterRefusedBegin() {
    GoalSearch g = Scenes.midway();
    g.begin(0, 5);
    due.answer("value after -3", g.value(), 2);
    g.begin(99, 5);
    due.answer("value after -2", g.value(), 2);
    g.begin(5, -1);
    due.answer("value after -1", g.value(), 2);
  }

  private static void afterEveryEnd() {
    for (int end : Scenes.ENDS) {
      GoalSearch g = Scenes.ended(end);
      due.answer("value after " + end, g.value(), 5);
      g.next();
      due.answer("value after " + end + " again", g.value(), 5);
    }
  }

  private static void endsWithoutAnyResult() {
    for (int end : Scenes.ENDS) {
      Maker m = new Maker();
      int e = Scenes.ending(m, end);
      due.run("gives a result", m.g, m.num(3), 9, 0, 1, 3);
      m.g.begin(e, 100);
      due.answer("next without a result", m.g.next(), end);
      due.answer("value without a result, " + end, m.g.value(), 0);
    }
  }

  private static void anyInt() {
    Maker m = new Maker();
    due.run("the least and the greatest", m.g, m.either(m.num(MIN), m.num(MAX)), 9, 0, 2, MIN, MAX);
    due.run("0 after another", m.g, m.either(m.num(5), m.num(0)), 9, 0, 2, 5, 0);
  }
}
