/** Promises 8 and 9: set and variable. */
public final class VariablesTest {
  private static final int MIN = Integer.MIN_VALUE;
  private static final int MAX = Integer.MAX_VALUE;
  private static final Due due = new Due();

  public static void main(String[] args) {
    firstAndLast();
    oneBelowAndOneBeyond();
    anyInt();
    eachIsApart();
    staysAtBegin();
    setBetweenResults();
    setAfterTheEnd();
    due.end();
  }

  private static void firstAndLast() {
    for (int n : new int[] {0, 7}) {
      GoalSearch g = new GoalSearch();
      due.answer("variable " + n + " at first", g.variable(n), 0);
      due.answer("set " + n, g.set(n, 5), 0);
      due.answer("variable " + n, g.variable(n), 5);
      due.answer("set " + n + " again", g.set(n, 6), 5);
      due.answer("variable " + n + " again", g.variable(n), 6);
    }
  }

  private static void oneBelowAndOneBeyond() {
    for (int n : new int[] {-1, 8, MIN, MAX}) {
      due.noChange("set " + n, Scenes::midway, g -> g.set(n, 9), 0);
      due.noChange("variable " + n, Scenes::midway, g -> g.variable(n), 0);
      GoalSearch g = new GoalSearch();
      g.set(n, 9);
      due.answer("set " + n + " once more", g.set(n, 9), 0);
      due.answer("variable " + n + " after set", g.variable(n), 0);
    }
  }

  private static void anyInt() {
    GoalSearch g = new GoalSearch();
    due.answer("set to the least", g.set(3, MIN), 0);
    due.answer("variable is the least", g.variable(3), MIN);
    due.answer("set to the greatest", g.set(3, MAX), MIN);
    due.answer("variable is the greatest", g.variable(3), MAX);
    due.answer("set to 0", g.set(3, 0), MAX);
    due.answer("variable is 0", g.variable(3), 0);
  }

  private static void eachIsApart() {
    GoalSearch g = new GoalSearch();
    for (int n = 0; n < 8; n++) {
      due.answer("set of " + n, g.set(n, 10 + n), 0);
    }
    for (int n = 0; n < 8; n++) {
      due.answer("variable " + n, g.variable(n), 10 + n);
    }
  }

  private static void staysAtBegin() {
    Maker m = new Maker();
    int e = m.assign(2, m.num(6));
    due.run("assign", m.g, e, 9, 0, 1, 6);
    due.answer("after the end", m.g.variable(2), 6);
    due.answer("begin", m.g.begin(e, 0), 0);
    due.answer("after begin", m.g.variable(2), 6);
    due.answer("no fuel", m.g.next(), -5);
    due.answer("after an error", m.g.variable(2), 6);
  }

  private static void setBetweenResults() {
    Maker m = new Maker();
    int e = m.either(m.var(4), m.either(m.var(4), m.plus(m.var(4), m.var(4))));
    m.g.begin(e, 9);
    m.g.set(4, 1);
    due.answer("next", m.g.next(), 1);
    due.answer("set before it was asked", m.g.value(), 1);
    due.answer("set", m.g.set(4, 2), 1);
    due.answer("value does not follow the variable", m.g.value(), 1);
    due.answer("next", m.g.next(), 1);
    due.answer("set between", m.g.value(), 2);
    m.g.set(4, 3);
    due.answer("next", m.g.next(), 1);
    due.answer("set between again", m.g.value(), 6);
    due.answer("next", m.g.next(), 0);
  }

  private static void setAfterTheEnd() {
    for (int end : Scenes.ENDS) {
      GoalSearch g = Scenes.ended(end);
      due.answer("set after " + end, g.set(1, 50), 5);
      due.answer("variable after " + end, g.variable(1), 50);
      due.answer("next after " + end + " and set", g.next(), end);
      due.answer("variable after that", g.variable(1), 50);
    }
  }
}
