/** Promise 5: ternary. */
public final class TernaryTest {
  private static final int MIN = Integer.MIN_VALUE;
  private static final int MAX = Integer.MAX_VALUE;
  private static final Due due = new Due();

  public static void main(String[] args) {
    bothKinds();
    wrongKinds();
    noSuchPart();
    partNotFree();
    twoPartsTheSame();
    sixty();
    depthFromEachPart();
    depthTwelve();
    firstOfTheRefusals();
    due.end();
  }

  private static void bothKinds() {
    for (int kind = 0; kind <= 1; kind++) {
      GoalSearch g = new GoalSearch();
      g.leaf(0, 5);
      g.leaf(0, 6);
      g.leaf(0, 7);
      due.answer("ternary of kind " + kind, g.ternary(kind, 2, 0, 1), 3);
      for (int part = 0; part < 3; part++) {
        due.answer("about part " + part, g.about(part), 1);
      }
      due.answer("about the whole", g.about(3), 34);
      due.answer("expressions", g.expressions(), 4);
    }
  }

  private static void wrongKinds() {
    for (int kind : new int[] {-1, 2, MIN, MAX}) {
      due.noChange("ternary of kind " + kind, Scenes::midway, g -> g.ternary(kind, 5, 6, 7), -1);
    }
  }

  private static void noSuchPart() {
    for (int part : new int[] {-1, 8, 59, 60, MIN, MAX}) {
      due.noChange("ternary of first part " + part, Scenes::midway, g -> g.ternary(0, part, 6, 7), -2);
      due.noChange("ternary of second part " + part, Scenes::midway, g -> g.ternary(1, 6, part, 7), -2);
      due.noChange("ternary of third part " + part, Scenes::midway, g -> g.ternary(0, 6, 7, part), -2);
    }
    due.answer("ternary of the last", Scenes.midway().ternary(1, 5, 6, 7), 8);
  }

  private static void partNotFree() {
    due.noChange("ternary, first part not free", Scenes::midway, g -> g.ternary(0, 4, 6, 7), -3);
    due.noChange("ternary, second part not free", Scenes::midway, g -> g.ternary(0, 6, 0, 7), -3);
    due.noChange("ternary, third part not free", Scenes::midway, g -> g.ternary(0, 6, 7, 0), -3);
    due.noChange("ternary, no part free", Scenes::midway, g -> g.ternary(1, 0, 1, 2), -3);
  }

  private static void twoPartsTheSame() {
    for (int kind = 0; kind <= 1; kind++) {
      int made = kind;
      due.noChange("ternary, first and second the same", Scenes::midway, g -> g.ternary(made, 6, 6, 7), -3);
      due.noChange("ternary, first and third the same", Scenes::midway, g -> g.ternary(made, 6, 7, 6), -3);
      due.noChange("ternary, second and third the same", Scenes::midway, g -> g.ternary(made, 7, 6, 6), -3);
      due.noChange("ternary, all three the same", Scenes::midway, g -> g.ternary(made, 6, 6, 6), -3);
    }
  }

  private static void sixty() {
    GoalSearch g = new GoalSearch();
    for (int i = 0; i < 59; i++) {
      g.leaf(0, i);
    }
    due.answer("ternary as the last that fits", g.ternary(0, 56, 58, 1), 59);
    due.run("the last that fits", g, 59, 9, 0, 6, 56, 57, 58);
    due.noChange("ternary into the full", Scenes::full, f -> f.ternary(0, 57, 58, 59), -4);
    due.noChange("ternary into the full, other kind", Scenes::full, f -> f.ternary(1, 12, 13, 14), -4);
  }

  private static void depthFromEachPart() {
    for (int place = 0; place < 3; place++) {
      GoalSearch g = Scenes.made();
      due.answer("ternary, one part of depth 4", make(g, place, 5, 6, 7), 8);
      due.answer("about it", g.about(8), 32 + 5);
    }
  }

  private static void depthTwelve() {
    for (int place = 0; place < 3; place++) {
      GoalSearch g = Scenes.deep();
      due.answer("ternary of depth 12", make(g, place, 22, 23, 24), 26);
      due.answer("about it", g.about(26), 44);
      int deepest = place;
      due.noChange("ternary of depth 13", Scenes::deep, f -> make(f, deepest, 11, 23, 24), -5);
    }
  }

  private static int make(GoalSearch g, int place, int deepest, int a, int b) {
    if (place == 0) {
      return g.ternary(1, deepest, a, b);
    }
    return place == 1 ? g.ternary(1, a, deepest, b) : g.ternary(1, a, b, deepest);
  }

  private static void firstOfTheRefusals() {
    due.noChange("no kind, no part", Scenes::deep, g -> g.ternary(2, 23, 24, 26), -1);
    due.noChange("no kind, part not free", Scenes::deep, g -> g.ternary(2, 23, 0, 24), -1);
    due.noChange("no kind, one part twice", Scenes::deep, g -> g.ternary(-1, 23, 23, 24), -1);
    due.noChange("no kind, full", Scenes::full, g -> g.ternary(2, 57, 58, 59), -1);
    due.noChange("no kind, too deep", Scenes::deep, g -> g.ternary(2, 11, 23, 24), -1);
    due.noChange("no part, another not free", Scenes::deep, g -> g.ternary(0, 0, 23, 26), -2);
    due.noChange("no part first, another not free", Scenes::deep, g -> g.ternary(0, 26, 23, 0), -2);
    due.noChange("no part in the middle, another not free", Scenes::deep, g -> g.ternary(0, 0, -1, 23), -2);
    due.noChange("no part, another twice", Scenes::deep, g -> g.ternary(0, 23, 23, 26), -2);
    due.noChange("no part, twice", Scenes::deep, g -> g.ternary(0, 26, 26, 23), -2);
    due.noChange("no part, full", Scenes::full, g -> g.ternary(0, 58, 59, 60), -2);
    due.noChange("no part, too deep", Scenes::deep, g -> g.ternary(0, 11, 23, 26), -2);
    due.noChange("part not free, full", Scenes::full, g -> g.ternary(0, 58, 59, 0), -3);
    due.noChange("one part twice, full", Scenes::full, g -> g.ternary(0, 59, 58, 59), -3);
    due.noChange("part not free, too deep", Scenes::deep, g -> g.ternary(0, 11, 0, 23), -3);
    due.noChange("one part twice, too deep", Scenes::deep, g -> g.ternary(0, 11, 23, 23), -3);
    due.noChange("full, too deep", Scenes::full, g -> g.ternary(0, 58, 59, 11), -4);
  }
}
