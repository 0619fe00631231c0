/** Promises 6 and 7: expressions and about. */
public final class ExpressionsTest {
  private static final int MIN = Integer.MIN_VALUE;
  private static final int MAX = Integer.MAX_VALUE;
  private static final Due due = new Due();

  public static void main(String[] args) {
    none();
    one();
    sixty();
    noSuchNumber();
    freeAndNotFree();
    depths();
    runningChangesNothing();
    due.end();
  }

  private static void none() {
    GoalSearch g = new GoalSearch();
    due.answer("none: expressions", g.expressions(), 0);
    due.answer("none: about 0", g.about(0), -2);
    due.answer("none: a refused leaf", g.leaf(2, 0), -1);
    due.answer("none: expressions after a refused leaf", g.expressions(), 0);
  }

  private static void one() {
    GoalSearch g = new GoalSearch();
    g.leaf(0, 5);
    due.answer("one: expressions", g.expressions(), 1);
    due.answer("one: about 0", g.about(0), 33);
    due.answer("one: about 1", g.about(1), -2);
    due.answer("one: a refused unary", g.unary(1, 0, 1), -2);
    due.answer("one: expressions after a refused unary", g.expressions(), 1);
  }

  private static void sixty() {
    GoalSearch g = new GoalSearch();
    for (int i = 0; i < 60; i++) {
      due.answer("expressions before leaf " + i, g.expressions(), i);
      g.leaf(0, i);
    }
    due.answer("sixty: expressions", g.expressions(), 60);
    due.answer("sixty: about 59", g.about(59), 33);
    due.answer("sixty: about 60", g.about(60), -2);
    due.answer("sixty: one more", g.leaf(0, 1), -4);
    due.answer("sixty: expressions after one more", g.expressions(), 60);
    due.answer("sixty: about 60 after one more", g.about(60), -2);
  }

  private static void noSuchNumber() {
    for (int x : new int[] {-1, 8, 59, 60, MIN, MAX}) {
      due.noChange("about " + x, Scenes::midway, g -> g.about(x), -2);
    }
  }

  private static void freeAndNotFree() {
    GoalSearch g = new GoalSearch();
    g.leaf(0, 5);
    g.leaf(1, 5);
    due.answer("a free leaf", g.about(0), 33);
    g.binary(0, 0, 1);
    due.answer("a leaf that is a part", g.about(0), 1);
    due.answer("the other one", g.about(1), 1);
    due.answer("the free whole", g.about(2), 34);
    g.unary(2, 0, 2);
    due.answer("the whole as a part", g.about(2), 2);
    due.answer("a part of a part", g.about(0), 1);
  }

  private static void depths() {
    GoalSearch g = new GoalSearch();
    g.leaf(0, 0);
    for (int depth = 2; depth <= 12; depth++) {
      due.answer("unary to depth " + depth, g.unary(2, 0, depth - 2), depth - 1);
      due.answer("depth " + depth, g.about(depth - 1), 32 + depth);
    }
    due.answer("depth 11 as a part", g.about(10), 11);
    due.answer("depth 13", g.unary(2, 0, 11), -5);
    due.answer("depth 12 stays free", g.about(11), 44);
  }

  private static void runningChangesNothing() {
    for (int end : Scenes.ENDS) {
      GoalSearch g = Scenes.ended(end);
      int made = g.expressions();
      due.answer("begun and free, after " + end, g.about(made - 1) / 32, 1);
      due.answer("a part, after " + end, g.about(made - 2) / 32, 0);
      due.answer("none beyond, after " + end, g.about(made), -2);
    }
  }
}
