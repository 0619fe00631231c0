/** Promise 10: begin. */
public final class BeginTest {
  private static final int MIN = Integer.MIN_VALUE;
  private static final int MAX = Integer.MAX_VALUE;
  private static final Due due = new Due();

  public static void main(String[] args) {
    noSuchExpression();
    notFree();
    leastFuel();
    greatestFuel();
    wrongFuel();
    firstOfTheRefusals();
    refusedInEveryState();
    firstAndLastExpression();
    startsFromTheBeginning();
    forgetsAnother();
    beginsAfterEveryEnd();
    newFuel();
    due.end();
  }

  private static void noSuchExpression() {
    for (int x : new int[] {-1, 8, 59, 60, MIN, MAX}) {
      due.noChange("begin " + x, Scenes::midway, g -> g.begin(x, 5), -2);
    }
    due.noChange("begin one beyond the full", Scenes::full, g -> g.begin(60, 5), -2);
  }

  private static void notFree() {
    for (int x = 0; x <= 4; x++) {
      int part = x;
      due.noChange("begin of the part " + x, Scenes::midway, g -> g.begin(part, 5), -3);
    }
  }

  private static void leastFuel() {
    GoalSearch g = Scenes.midway();
    due.answer("begin with fuel 0", g.begin(5, 0), 0);
    due.answer("next without fuel", g.next(), -5);
    due.answer("cost without fuel", g.cost(), 0);
  }

  private static void greatestFuel() {
    Maker m = new Maker();
    int e = m.again(m.num(7));
    due.answer("begin with fuel 2000", m.g.begin(e, 2000), 0);
    for (int i = 0; i < 20; i++) {
      due.answer("skip 100, time " + i, m.g.skip(100), 100);
    }
    due.answer("cost of them", m.g.cost(), 2000);
    due.answer("next after the last fuel", m.g.next(), -5);
    due.answer("cost after it", m.g.cost(), 2000);
  }

  private static void wrongFuel() {
    for (int fuel : new int[] {-1, 2001, MIN, MAX}) {
      due.noChange("begin with fuel " + fuel, Scenes::midway, g -> g.begin(5, fuel), -1);
      due.noChange("begin another with fuel " + fuel, Scenes::midway, g -> g.begin(6, fuel), -1);
    }
  }

  private static void firstOfTheRefusals() {
    for (int fuel : new int[] {-1, 2001}) {
      due.noChange("no expression, no fuel", Scenes::midway, g -> g.begin(8, fuel), -2);
      due.noChange("below 0, no fuel", Scenes::midway, g -> g.begin(-1, fuel), -2);
      due.noChange("not free, no fuel", Scenes::midway, g -> g.begin(0, fuel), -3);
    }
  }

  /** A refused begin leaves as it was what was begun, how far it is, and how it ended. */
  private static void refusedInEveryState() {
    due.noChange("refused before any begin: -2", Scenes::made, g -> g.begin(8, 5), -2);
    due.noChange("refused before any begin: -3", Scenes::made, g -> g.begin(0, 5), -3);
    due.noChange("refused before any begin: -1", Scenes::made, g -> g.begin(5, 2001), -1);
    due.noChange("refused after a begin: -2", Scenes::begun, g -> g.begin(8, 5), -2);
    due.noChange("refused after a begin: -3", Scenes::begun, g -> g.begin(0, 5), -3);
    due.noChange("refused after a begin: -1", Scenes::begun, g -> g.begin(5, 2001), -1);
    for (int end : Scenes.ENDS) {
      due.noChange("refused after " + end + ": -2", () -> Scenes.ended(end), g -> g.begin(59, 5), -2);
      due.noChange("refused after " + end + ": -3", () -> Scenes.ended(end), g -> g.begin(0, 5), -3);
      due.noChange("refused after " + end + ": -1", () -> Scenes.ended(end),
          g -> g.begin(g.expressions() - 1, -1), -1);
    }
  }

  private static void firstAndLastExpression() {
    GoalSearch g = new GoalSearch();
    for (int i = 0; i < 60; i++) {
      g.leaf(0, 100 + i);
    }
    due.run("begin the first", g, 0, 1, 0, 1, 100);
    due.run("begin the last", g, 59, 1, 0, 1, 159);
  }

  private static void startsFromTheBeginning() {
    GoalSearch g = Scenes.midway();
    due.answer("value before", g.value(), 2);
    due.answer("begin the same", g.begin(5, 50), 0);
    due.answer("value after begin", g.value(), 0);
    due.answer("cost after begin", g.cost(), 0);
    due.written("after begin", g);
    due.answer("variable stays", g.variable(2), 2);
    due.answer("variable from outside stays", g.variable(0), 70);
    due.answer("next", g.next(), 1);
    due.answer("its first result", g.value(), 1);
    due.answer("its cost", g.cost(), 4);
    due.written("its first result", g, 1);
  }

  private static void forgetsAnother() {
    GoalSearch g = Scenes.midway();
    due.run("another", g, 6, 50, 0, 1, 9);
    due.written("another", g);
    due.run("the one before, from its beginning", g, 5, 50, 0, 7, 1, 2, 3, 4);
    due.written("the one before", g, 1, 2, 3, 4);
  }

  private static void beginsAfterEveryEnd() {
    for (int end : Scenes.ENDS) {
      GoalSearch g = Scenes.ended(end);
      int whole = g.expressions() - 1;
      due.answer("begin after " + end, g.begin(whole, end == -5 ? 20 : 100), 0);
      due.answer("value after begin", g.value(), 0);
      due.answer("cost after begin", g.cost(), 0);
      due.written("after begin", g);
      due.answer("variable after begin", g.variable(1), 5);
      due.answer("results after begin", g.skip(100), 2);
      due.answer("the same end", g.next(), end);
      due.answer("the same cost", g.cost(), Scenes.costOf(end));
    }
  }

  private static void newFuel() {
    GoalSearch g = Scenes.begun();
    due.run("fuel for one result", g, 5, 4, -5, 4, 1);
    due.run("fuel for all", g, 5, 7, 0, 7, 1, 2, 3, 4);
    due.run("less again", g, 5, 5, -5, 5, 1, 2);
  }
}
