/** Promises 8 and 9: set and variable. */
public final class VariablesTest {
  private static final int MIN = Integer.MIN_VALUE;
  private static final int MAX = Integer.MAX_VALUE;
  private static final Due due = new Due();

  public static void main(String[] args) {
    setting();
    wrongNumbers();
    variablesStay();
    setBetweenResults();
    due.end();
  }

  private static void setting() {
    GoalSearch g = new GoalSearch();
    for (int n = 0; n < 8; n++) {
      due.answer("first set of " + n, g.set(n, 10 + n), 0);
    }
    due.answer("set again", g.set(3, MIN), 13);
    due.answer("and again", g.set(3, MAX), MIN);
    due.answer("variable 3", g.variable(3), MAX);
    due.answer("variable 0", g.variable(0), 10);
    due.answer("variable 7", g.variable(7), 17);
  }

  private static void wrongNumbers() {
    GoalSearch g = new GoalSearch();
    for (int n = 0; n < 8; n++) {
      g.set(n, 5);
    }
    for (int n : new int[] {-1, 8, MIN, MAX}) {
      due.answer("set of " + n, g.set(n, 9), 0);
      due.answer("set of " + n + " once more", g.set(n, 9), 0);
      due.answer("variable " + n, g.variable(n), 0);
    }
    for (int n = 0; n < 8; n++) {
      due.answer("variable unchanged " + n, g.variable(n), 5);
    }
  }

  private static void variablesStay() {
    Maker m = new Maker();
    int e = m.assign(2, m.num(6));
    due.run("assign", m.g, e, 9, 0, 1, 6);
    due.answer("after the end", m.g.variable(2), 6);
    m.g.begin(e, 0);
    due.answer("after begin", m.g.variable(2), 6);
    due.answer("no fuel", m.g.next(), -5);
    due.answer("after an error", m.g.variable(2), 6);
  }

  private static void setBetweenResults() {
    Maker m = new Maker();
    int e = m.either(m.var(4), m.either(m.var(4), m.plus(m.var(4), m.var(4))));
    m.g.begin(e, 9);
    m.g.set(4, 1);
    due.answer("next", m.g.next(), 1);
    due.answer("set before it was asked", m.g.value(), 1);
    due.answer("set", m.g.set(4, 2), 1);
    due.answer("value does not follow the variable", m.g.value(), 1);
    due.answer("next", m.g.next(), 1);
    due.answer("set between", m.g.value(), 2);
    m.g.set(4, 3);
    due.answer("next", m.g.next(), 1);
    due.answer("set between again", m.g.value(), 6);
    due.answer("next", m.g.next(), 0);
  }
}
