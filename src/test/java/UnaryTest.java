/** Promise 3: unary. */
public final class UnaryTest {
  private static final int MIN = Integer.MIN_VALUE;
  private static final int MAX = Integer.MAX_VALUE;
  private static final Due due = new Due();

  public static void main(String[] args) {
    everyKind();
    wrongKinds();
    assignAtBothEnds();
    assignToNoVariable();
    otherKindsDoNotLookAtK();
    noSuchPart();
    partNotFree();
    sixty();
    depthTwelve();
    firstOfTheRefusals();
    due.end();
  }

  private static void everyKind() {
    for (int kind = 0; kind <= 3; kind++) {
      GoalSearch g = new GoalSearch();
      g.leaf(0, 5);
      due.answer("unary of kind " + kind, g.unary(kind, 0, 0), 1);
      due.answer("about the part", g.about(0), 1);
      due.answer("about the whole", g.about(1), 34);
      due.answer("expressions", g.expressions(), 2);
    }
  }

  private static void wrongKinds() {
    for (int kind : new int[] {-1, 4, MIN, MAX}) {
      due.noChange("unary of kind " + kind, Scenes::midway, g -> g.unary(kind, 0, 6), -1);
    }
  }

  private static void assignAtBothEnds() {
    for (int k : new int[] {0, 7}) {
      GoalSearch g = new GoalSearch();
      g.leaf(0, 5);
      due.answer("assign to variable " + k, g.unary(0, k, 0), 1);
      due.run("assign to variable " + k, g, 1, 9, 0, 1, 5);
      for (int n = 0; n < 8; n++) {
        due.answer("assign to variable " + k + ": variable " + n, g.variable(n), n == k ? 5 : 0);
      }
    }
  }

  private static void assignToNoVariable() {
    for (int k : new int[] {-1, 8, MIN, MAX}) {
      due.noChange("assign to variable " + k, Scenes::midway, g -> g.unary(0, k, 6), -1);
    }
  }

  private static void otherKindsDoNotLookAtK() {
    for (int kind = 1; kind <= 3; kind++) {
      for (int k : new int[] {-1, 8, MIN, MAX}) {
        GoalSearch g = new GoalSearch();
        g.leaf(0, 5);
        due.answer("unary of kind " + kind + " with k " + k, g.unary(kind, k, 0), 1);
      }
    }
  }

  private static void noSuchPart() {
    for (int kind = 0; kind <= 3; kind++) {
      int made = kind;
      for (int x : new int[] {-1, 8, 59, 60, MIN, MAX}) {
        due.noChange("unary of part " + x, Scenes::midway, g -> g.unary(made, 0, x), -2);
      }
    }
    due.answer("unary of the last", Scenes.midway().unary(1, 0, 7), 8);
  }

  private static void partNotFree() {
    for (int x = 0; x <= 4; x++) {
      int part = x;
      due.noChange("unary of what is a part already " + x, Scenes::midway, g -> g.unary(1, 0, part), -3);
    }
    due.answer("unary of what is free and begun", Scenes.midway().unary(1, 0, 5), 8);
  }

  private static void sixty() {
    GoalSearch g = new GoalSearch();
    for (int i = 0; i < 59; i++) {
      g.leaf(0, i);
    }
    due.answer("unary as the last that fits", g.unary(1, 0, 58), 59);
    due.run("the last that fits", g, 59, 9, 0, 1, 58);
    for (int kind = 0; kind <= 3; kind++) {
      int made = kind;
      due.noChange("unary into the full", Scenes::full, f -> f.unary(made, 0, 59), -4);
    }
  }

  private static void depthTwelve() {
    GoalSearch g = Scenes.deep();
    due.answer("unary of depth 12", g.unary(1, 0, 22), 26);
    due.answer("about it", g.about(26), 44);
    for (int kind = 0; kind <= 3; kind++) {
      int made = kind;
      due.noChange("unary of depth 13", Scenes::deep, f -> f.unary(made, 0, 11), -5);
    }
  }

  private static void firstOfTheRefusals() {
    due.noChange("no kind, no part", Scenes::deep, g -> g.unary(4, 0, 26), -1);
    due.noChange("no kind, part not free", Scenes::deep, g -> g.unary(-1, 0, 0), -1);
    due.noChange("no kind, full", Scenes::full, g -> g.unary(4, 0, 59), -1);
    due.noChange("no kind, too deep", Scenes::deep, g -> g.unary(4, 0, 11), -1);
    due.noChange("no variable, no part", Scenes::deep, g -> g.unary(0, 8, 26), -1);
    due.noChange("no variable, part not free", Scenes::deep, g -> g.unary(0, -1, 0), -1);
    due.noChange("no variable, full", Scenes::full, g -> g.unary(0, 8, 59), -1);
    due.noChange("no variable, too deep", Scenes::deep, g -> g.unary(0, 8, 11), -1);
    due.noChange("no part, full", Scenes::full, g -> g.unary(0, 0, 60), -2);
    due.noChange("part not free, full", Scenes::full, g -> g.unary(0, 0, 0), -3);
    due.noChange("full, too deep", Scenes::full, g -> g.unary(0, 0, 11), -4);
  }
}
