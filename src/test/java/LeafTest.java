/** Promise 2: leaf. */
public final class LeafTest {
  private static final int MIN = Integer.MIN_VALUE;
  private static final int MAX = Integer.MAX_VALUE;
  private static final Due due = new Due();

  public static void main(String[] args) {
    numbersFromZero();
    wrongKinds();
    anyIntIsANumber();
    variablesAtBothEnds();
    wrongVariables();
    sixty();
    firstOfTheRefusals();
    due.end();
  }

  private static void numbersFromZero() {
    GoalSearch g = new GoalSearch();
    due.answer("the first leaf", g.leaf(0, 5), 0);
    due.answer("the second leaf", g.leaf(0, 5), 1);
    due.answer("a leaf of the other kind", g.leaf(1, 5), 2);
    due.answer("about the first", g.about(0), 33);
    due.answer("about the last", g.about(2), 33);
  }

  private static void wrongKinds() {
    for (int kind : new int[] {-1, 2, 3, MIN, MAX}) {
      for (int v : new int[] {0, 7}) {
        due.noChange("leaf of kind " + kind, Scenes::midway, g -> g.leaf(kind, v), -1);
      }
    }
  }

  private static void anyIntIsANumber() {
    for (int v : new int[] {MIN, MIN + 1, -1, 0, 7, 8, MAX - 1, MAX}) {
      GoalSearch g = new GoalSearch();
      due.answer("leaf of the number " + v, g.leaf(0, v), 0);
      due.run("number " + v, g, 0, 9, 0, 1, v);
    }
  }

  private static void variablesAtBothEnds() {
    for (int v : new int[] {0, 7}) {
      GoalSearch g = new GoalSearch();
      for (int n = 0; n < 8; n++) {
        g.set(n, 40 + n);
      }
      due.answer("leaf of the variable " + v, g.leaf(1, v), 0);
      due.run("variable " + v, g, 0, 9, 0, 1, 40 + v);
    }
  }

  private static void wrongVariables() {
    for (int v : new int[] {-1, 8, MIN, MAX}) {
      due.noChange("leaf of the variable " + v, Scenes::midway, g -> g.leaf(1, v), -1);
    }
  }

  private static void sixty() {
    GoalSearch g = new GoalSearch();
    for (int i = 0; i < 60; i++) {
      due.answer("leaf " + i, g.leaf(i % 2, i % 8), i);
    }
    due.answer("one leaf more", g.leaf(0, 1), -4);
    due.noChange("a number into the full", Scenes::full, f -> f.leaf(0, 1), -4);
    due.noChange("a variable into the full", Scenes::full, f -> f.leaf(1, 1), -4);
  }

  private static void firstOfTheRefusals() {
    due.noChange("no kind, and full", Scenes::full, g -> g.leaf(2, 0), -1);
    due.noChange("kind below 0, and full", Scenes::full, g -> g.leaf(-1, 0), -1);
    due.noChange("variable 8, and full", Scenes::full, g -> g.leaf(1, 8), -1);
    due.noChange("variable -1, and full", Scenes::full, g -> g.leaf(1, -1), -1);
    due.noChange("number 8 into the full", Scenes::full, g -> g.leaf(0, 8), -4);
  }
}
