/** Promise 1: a new object, and what each call answers before anything was made or begun. */
public final class NewObjectTest {
  private static final int MIN = Integer.MIN_VALUE;
  private static final int MAX = Integer.MAX_VALUE;
  private static final Due due = new Due();

  public static void main(String[] args) {
    noExpressions();
    nothingToMakeFrom();
    variablesAreZero();
    nothingBegun();
    nothingWritten();
    nothingBegunThoughMade();
    objectsAreApart();
    due.end();
  }

  private static void noExpressions() {
    due.noChange("new: expressions", GoalSearch::new, g -> g.expressions(), 0);
    for (int x : new int[] {-1, 0, 1, 59, 60, MIN, MAX}) {
      due.noChange("new: about " + x, GoalSearch::new, g -> g.about(x), -2);
      due.noChange("new: begin " + x, GoalSearch::new, g -> g.begin(x, 5), -2);
      due.noChange("new: begin with no such fuel " + x, GoalSearch::new, g -> g.begin(x, -1), -2);
    }
    due.answer("new: the first expression's number", new GoalSearch().leaf(0, 5), 0);
  }

  private static void nothingToMakeFrom() {
    for (int x : new int[] {-1, 0, 60}) {
      due.noChange("new: unary of " + x, GoalSearch::new, g -> g.unary(1, 0, x), -2);
      due.noChange("new: binary of " + x, GoalSearch::new, g -> g.binary(0, x, x + 1), -2);
      due.noChange("new: binary of twice " + x, GoalSearch::new, g -> g.binary(0, x, x), -2);
      due.noChange("new: ternary of " + x, GoalSearch::new, g -> g.ternary(0, x, x + 1, x + 2), -2);
      due.noChange("new: ternary of thrice " + x, GoalSearch::new, g -> g.ternary(0, x, x, x), -2);
    }
    due.noChange("new: leaf of no kind", GoalSearch::new, g -> g.leaf(2, 0), -1);
    due.noChange("new: unary of no kind", GoalSearch::new, g -> g.unary(4, 0, 0), -1);
    due.noChange("new: binary of no kind", GoalSearch::new, g -> g.binary(12, 0, 1), -1);
    due.noChange("new: ternary of no kind", GoalSearch::new, g -> g.ternary(2, 0, 1, 2), -1);
  }

  private static void variablesAreZero() {
    for (int n = -1; n <= 8; n++) {
      int number = n;
      due.noChange("new: variable " + n, GoalSearch::new, g -> g.variable(number), 0);
      due.answer("new: set " + n, new GoalSearch().set(n, 5), 0);
    }
  }

  private static void nothingBegun() {
    due.noChange("new: next", GoalSearch::new, g -> g.next(), -1);
    for (int n : new int[] {-1, 0, 1, 100, 101}) {
      due.noChange("new: skip " + n, GoalSearch::new, g -> g.skip(n), 0);
    }
    due.noChange("new: value", GoalSearch::new, g -> g.value(), 0);
    due.noChange("new: cost", GoalSearch::new, g -> g.cost(), 0);
  }

  private static void nothingWritten() {
    due.noChange("new: writes", GoalSearch::new, g -> g.writes(), 0);
    for (int i : new int[] {-1, 0, 1, 31, 32, MIN, MAX}) {
      due.noChange("new: written " + i, GoalSearch::new, g -> g.written(i), 4294967296L);
    }
  }

  private static void nothingBegunThoughMade() {
    due.noChange("made: next", Scenes::made, g -> g.next(), -1);
    due.noChange("made: skip", Scenes::made, g -> g.skip(1), 0);
    due.noChange("made: value", Scenes::made, g -> g.value(), 0);
    due.noChange("made: writes", Scenes::made, g -> g.writes(), 0);
    due.noChange("made: written", Scenes::made, g -> g.written(0), 4294967296L);
    due.noChange("made: cost", Scenes::made, g -> g.cost(), 0);
  }

  private static void objectsAreApart() {
    GoalSearch one = Scenes.midway();
    GoalSearch another = new GoalSearch();
    due.answer("another: expressions", another.expressions(), 0);
    due.answer("another: variable", another.variable(7), 0);
    due.answer("another: next", another.next(), -1);
    due.answer("another: value", another.value(), 0);
    due.written("another", another);
    due.answer("another: set", another.set(7, 1), 0);
    due.answer("one: variable", one.variable(7), 77);
    due.answer("one: value", one.value(), 2);
  }
}
