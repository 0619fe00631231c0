/** Promise 4: binary. */
public final class BinaryTest {
  private static final int MIN = Integer.MIN_VALUE;
  private static final int MAX = Integer.MAX_VALUE;
  private static final Due due = new Due();

  public static void main(String[] args) {
    everyKind();
    wrongKinds();
    noSuchPart();
    partNotFree();
    onePartTwice();
    sixty();
    depthFromEachPart();
    depthTwelve();
    firstOfTheRefusals();
    due.end();
  }

  private static void everyKind() {
    for (int kind = 0; kind <= 11; kind++) {
      GoalSearch g = new GoalSearch();
      g.leaf(0, 5);
      g.leaf(0, 6);
      due.answer("binary of kind " + kind, g.binary(kind, 1, 0), 2);
      due.answer("about the first part", g.about(1), 1);
      due.answer("about the second part", g.about(0), 1);
      due.answer("about the whole", g.about(2), 34);
      due.answer("expressions", g.expressions(), 3);
    }
  }

  private static void wrongKinds() {
    for (int kind : new int[] {-1, 12, MIN, MAX}) {
      due.noChange("binary of kind " + kind, Scenes::midway, g -> g.binary(kind, 6, 7), -1);
    }
  }

  private static void noSuchPart() {
    for (int part : new int[] {-1, 8, 59, 60, MIN, MAX}) {
      due.noChange("binary of first part " + part, Scenes::midway, g -> g.binary(0, part, 6), -2);
      due.noChange("binary of second part " + part, Scenes::midway, g -> g.binary(11, 6, part), -2);
    }
    due.answer("binary of the last", Scenes.midway().binary(0, 6, 7), 8);
  }

  private static void partNotFree() {
    due.noChange("binary, first part not free", Scenes::midway, g -> g.binary(0, 0, 6), -3);
    due.noChange("binary, second part not free", Scenes::midway, g -> g.binary(0, 6, 4), -3);
    due.noChange("binary, neither part free", Scenes::midway, g -> g.binary(0, 0, 1), -3);
    due.answer("binary of what is free and begun", Scenes.midway().binary(0, 6, 5), 8);
  }

  private static void onePartTwice() {
    for (int kind = 0; kind <= 11; kind++) {
      int made = kind;
      due.noChange("binary of one part twice", Scenes::midway, g -> g.binary(made, 6, 6), -3);
    }
  }

  private static void sixty() {
    GoalSearch g = new GoalSearch();
    for (int i = 0; i < 59; i++) {
      g.leaf(0, i);
    }
    due.answer("binary as the last that fits", g.binary(2, 57, 58), 59);
    due.run("the last that fits", g, 59, 9, 0, 2, 115);
    due.noChange("binary into the full", Scenes::full, f -> f.binary(0, 58, 59), -4);
  }

  private static void depthFromEachPart() {
    GoalSearch g = Scenes.made();
    due.answer("binary, deeper on the left", g.binary(0, 5, 6), 8);
    due.answer("about it", g.about(8), 32 + 5);
    due.answer("binary, deeper on the right", g.binary(0, 7, 8), 9);
    due.answer("about it", g.about(9), 32 + 6);
  }

  private static void depthTwelve() {
    GoalSearch left = Scenes.deep();
    due.answer("binary of depth 12 on the left", left.binary(0, 22, 23), 26);
    due.answer("about it", left.about(26), 44);
    GoalSearch right = Scenes.deep();
    due.answer("binary of depth 12 on the right", right.binary(0, 23, 22), 26);
    due.answer("about it", right.about(26), 44);
    due.noChange("binary of depth 13 on the left", Scenes::deep, g -> g.binary(0, 11, 23), -5);
    due.noChange("binary of depth 13 on the right", Scenes::deep, g -> g.binary(0, 23, 11), -5);
  }

  private static void firstOfTheRefusals() {
    due.noChange("no kind, no part", Scenes::deep, g -> g.binary(12, 23, 26), -1);
    due.noChange("no kind, part not free", Scenes::deep, g -> g.binary(12, 0, 23), -1);
    due.noChange("no kind, one part twice", Scenes::deep, g -> g.binary(-1, 23, 23), -1);
    due.noChange("no kind, full", Scenes::full, g -> g.binary(12, 58, 59), -1);
    due.noChange("no kind, too deep", Scenes::deep, g -> g.binary(12, 11, 23), -1);
    due.noChange("no first part, second not free", Scenes::deep, g -> g.binary(0, 26, 0), -2);
    due.noChange("first not free, no second part", Scenes::deep, g -> g.binary(0, 0, 26), -2);
    due.noChange("no part, twice", Scenes::deep, g -> g.binary(0, 26, 26), -2);
    due.noChange("no part, twice below 0", Scenes::deep, g -> g.binary(0, -1, -1), -2);
    due.noChange("no part, full", Scenes::full, g -> g.binary(0, 59, 60), -2);
    due.noChange("no part, too deep", Scenes::deep, g -> g.binary(0, 11, 26), -2);
    due.noChange("part not free, full", Scenes::full, g -> g.binary(0, 59, 0), -3);
    due.noChange("one part twice, full", Scenes::full, g -> g.binary(0, 59, 59), -3);
    due.noChange("part not free, too deep", Scenes::deep, g -> g.binary(0, 0, 11), -3);
    due.noChange("one part twice, too deep", Scenes::deep, g -> g.binary(0, 11, 11), -3);
    due.noChange("full, too deep", Scenes::full, g -> g.binary(0, 59, 11), -4);
  }
}
