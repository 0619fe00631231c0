/** Promise 11: next. */
public final class NextTest {
  private static final Due due = new Due();

  public static void main(String[] args) {
    beforeAnyBegin();
    givesAndFails();
    sameAfterEveryEnd();
    sameAfterMaking();
    begunBecomesPartAtOnce();
    begunBecomesPartMidway();
    begunBecomesPartAtItsEnd();
    wholeBeginsAfterItsPart();
    lastOfAllCalls();
    due.end();
  }

  private static void beforeAnyBegin() {
    due.noChange("next before anything", GoalSearch::new, g -> g.next(), -1);
    due.noChange("next before any begin", Scenes::made, g -> g.next(), -1);
    GoalSearch g = Scenes.made();
    due.answer("begin refused", g.begin(5, 2001), -1);
    due.answer("next after a refused begin", g.next(), -1);
    due.answer("begin", g.begin(5, 50), 0);
    due.answer("next after a begin", g.next(), 1);
  }

  private static void givesAndFails() {
    GoalSearch g = Scenes.begun();
    for (int i = 1; i <= 4; i++) {
      due.answer("next " + i, g.next(), 1);
      due.answer("value " + i, g.value(), i);
    }
    due.answer("next after the last", g.next(), 0);
  }

  private static void sameAfterEveryEnd() {
    for (int end : Scenes.ENDS) {
      due.answer("the end " + end, Scenes.ended(end).next(), end);
      due.noChange("next after " + end, () -> Scenes.ended(end), g -> g.next(), end);
      due.noChange("many after " + end, () -> Scenes.ended(end), g -> g.next() + g.next() + g.next(), 3 * end);
    }
  }

  private static void sameAfterMaking() {
    for (int end : Scenes.ENDS) {
      GoalSearch g = Scenes.ended(end);
      int whole = g.expressions() - 1;
      g.leaf(0, 1);
      due.answer("next after " + end + " and a leaf", g.next(), end);
      g.binary(0, whole + 1, whole);
      due.answer("next after " + end + " and a whole", g.next(), end);
      due.answer("its value", g.value(), 5);
      due.answer("its cost", g.cost(), Scenes.costOf(end));
    }
  }

  private static void begunBecomesPartAtOnce() {
    GoalSearch g = Scenes.begun();
    due.answer("a part of another", g.unary(2, 0, 5), 8);
    due.answer("next", g.next(), 1);
    due.answer("value", g.value(), 1);
    due.answer("all others", g.skip(100), 3);
    due.answer("the end", g.next(), 0);
  }

  private static void begunBecomesPartMidway() {
    GoalSearch g = Scenes.midway();
    due.answer("a part of another", g.unary(1, 0, 5), 8);
    due.answer("a part of a part", g.binary(2, 6, 8), 9);
    due.answer("value stays", g.value(), 2);
    due.answer("cost stays", g.cost(), 5);
    due.answer("next", g.next(), 1);
    due.answer("value", g.value(), 3);
    due.written("by itself alone", g, 1, 2, 3);
    due.answer("begin is refused now", g.begin(5, 50), -3);
    due.answer("next after that", g.next(), 1);
    due.answer("value after that", g.value(), 4);
    due.answer("the end", g.next(), 0);
    due.answer("cost at the end", g.cost(), 7);
  }

  private static void begunBecomesPartAtItsEnd() {
    for (int end : Scenes.ENDS) {
      GoalSearch g = Scenes.ended(end);
      int whole = g.expressions() - 1;
      due.answer("a part after " + end, g.unary(2, 0, whole), whole + 1);
      due.answer("next after " + end, g.next(), end);
      due.answer("begin is refused after " + end, g.begin(whole, 50), -3);
      due.answer("next still after " + end, g.next(), end);
    }
  }

  private static void wholeBeginsAfterItsPart() {
    GoalSearch g = Scenes.midway();
    int whole = g.binary(2, 6, 5);
    due.run("the whole starts its part anew", g, whole, 50, 0, 8, 10, 11, 12, 13);
    due.written("the whole", g, 1, 2, 3, 4);
  }

  /** The document speaks of 512 calls after the object was made. */
  private static void lastOfAllCalls() {
    GoalSearch g = new GoalSearch();
    g.leaf(0, 5);
    g.unary(3, 0, 0);
    g.begin(1, 2000);
    for (int call = 4; call <= 512; call++) {
      due.answer("call " + call, g.next(), 1);
    }
  }
}
