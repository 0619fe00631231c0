/** Promises 1 to 7: a new object, making expressions and asking about them. */
public final class MakingTest {
  private static final int MIN = Integer.MIN_VALUE;
  private static final int MAX = Integer.MAX_VALUE;
  private static final Due due = new Due();

  public static void main(String[] args) {
    newObject();
    leaves();
    unaries();
    binaries();
    ternaries();
    depths();
    fullObject();
    orderOfRefusals();
    due.end();
  }

  private static void newObject() {
    GoalSearch g = new GoalSearch();
    due.answer("new: expressions", g.expressions(), 0);
    for (int n = 0; n < 8; n++) {
      due.answer("new: variable " + n, g.variable(n), 0);
    }
    due.answer("new: next", g.next(), -1);
    due.answer("new: next again", g.next(), -1);
    due.answer("new: skip", g.skip(5), 0);
    due.answer("new: value", g.value(), 0);
    due.answer("new: cost", g.cost(), 0);
    due.answer("new: about", g.about(0), -2);
    due.answer("new: begin", g.begin(0, 5), -2);
    due.written("new", g);
    g.leaf(0, 4);
    due.answer("new: next when there is something to begin", g.next(), -1);
    due.answer("new: a second object is apart", new GoalSearch().expressions(), 0);
  }

  private static void leaves() {
    GoalSearch g = new GoalSearch();
    due.answer("leaf of the least int", g.leaf(0, MIN), 0);
    due.answer("leaf of the greatest int", g.leaf(0, MAX), 1);
    due.answer("leaf of variable 0", g.leaf(1, 0), 2);
    due.answer("leaf of variable 7", g.leaf(1, 7), 3);
    for (int kind : new int[] {-1, 2, MIN, MAX}) {
      due.answer("leaf of kind " + kind, g.leaf(kind, 0), -1);
    }
    for (int v : new int[] {-1, 8, MIN, MAX}) {
      due.answer("leaf of variable " + v, g.leaf(1, v), -1);
    }
    due.answer("expressions after refusals", g.expressions(), 4);
    due.answer("leaf is free and of depth 1", g.about(0), 33);
  }

  private static void unaries() {
    GoalSearch g = new GoalSearch();
    g.leaf(0, 1);
    for (int kind : new int[] {-1, 4, MIN, MAX}) {
      due.answer("unary of kind " + kind, g.unary(kind, 0, 0), -1);
    }
    for (int k : new int[] {-1, 8, MIN, MAX}) {
      due.answer("assign to variable " + k, g.unary(0, k, 0), -1);
    }
    for (int x : new int[] {-1, 1, 60, MIN, MAX}) {
      due.answer("unary of part " + x, g.unary(1, 0, x), -2);
    }
    due.answer("part stays free after refusals", g.about(0), 33);
    due.answer("assign to variable 7", g.unary(0, 7, 0), 1);
    due.answer("write, k not looked at", g.unary(1, -9, 1), 2);
    due.answer("not, k not looked at", g.unary(2, MAX, 2), 3);
    due.answer("again, k not looked at", g.unary(3, MIN, 3), 4);
    due.answer("part is free no more", g.about(3), 4);
    due.answer("unary over several", g.about(4), 32 + 5);
    due.answer("unary of what is not free", g.unary(2, 0, 3), -3);
    due.answer("assign to variable 0", g.unary(0, 0, 4), 5);
    due.answer("expressions", g.expressions(), 6);
  }

  private static void binaries() {
    GoalSearch g = new GoalSearch();
    g.leaf(0, 1);
    g.leaf(0, 2);
    for (int kind : new int[] {-1, 12, MIN, MAX}) {
      due.answer("binary of kind " + kind, g.binary(kind, 0, 1), -1);
    }
    for (int part : new int[] {-1, 2, 60, MIN, MAX}) {
      due.answer("binary of first part " + part, g.binary(0, part, 1), -2);
      due.answer("binary of second part " + part, g.binary(0, 0, part), -2);
      due.answer("binary of one part twice that is none " + part, g.binary(0, part, part), -2);
    }
    due.answer("binary of one part twice", g.binary(0, 1, 1), -3);
    due.answer("first part stays free", g.about(0), 33);
    due.answer("second part stays free", g.about(1), 33);
    due.answer("binary", g.binary(0, 1, 0), 2);
    due.answer("first part is free no more", g.about(1), 1);
    due.answer("second part is free no more", g.about(0), 1);
    due.answer("binary is free", g.about(2), 34);
    due.answer("a leaf more", g.leaf(0, 3), 3);
    due.answer("binary, first part not free", g.binary(0, 0, 3), -3);
    due.answer("binary, second part not free", g.binary(0, 3, 0), -3);
    due.answer("binary deeper on the right", g.binary(11, 3, 2), 4);
    due.answer("depth from the right", g.about(4), 35);
    due.answer("a leaf more", g.leaf(0, 3), 5);
    due.answer("binary deeper on the left", g.binary(1, 4, 5), 6);
    due.answer("depth from the left", g.about(6), 36);
    due.answer("expressions", g.expressions(), 7);
  }

  private static void ternaries() {
    GoalSearch g = new GoalSearch();
    g.leaf(0, 1);
    g.leaf(0, 2);
    g.leaf(0, 3);
    for (int kind : new int[] {-1, 2, MIN, MAX}) {
      due.answer("ternary of kind " + kind, g.ternary(kind, 0, 1, 2), -1);
    }
    for (int part : new int[] {-1, 3, 60, MIN, MAX}) {
      due.answer("ternary of first part " + part, g.ternary(0, part, 1, 2), -2);
      due.answer("ternary of second part " + part, g.ternary(0, 0, part, 2), -2);
      due.answer("ternary of third part " + part, g.ternary(0, 0, 1, part), -2);
      due.answer("ternary, one part twice and one none", g.ternary(0, 1, 1, part), -2);
    }
    due.answer("ternary, first and second the same", g.ternary(1, 0, 0, 2), -3);
    due.answer("ternary, first and third the same", g.ternary(1, 0, 1, 0), -3);
    due.answer("ternary, second and third the same", g.ternary(1, 0, 1, 1), -3);
    for (int part = 0; part < 3; part++) {
      due.answer("part stays free " + part, g.about(part), 33);
    }
    due.answer("ternary", g.ternary(1, 0, 1, 2), 3);
    for (int part = 0; part < 3; part++) {
      due.answer("part is free no more " + part, g.about(part), 1);
    }
    due.answer("ternary is free", g.about(3), 34);
    g.leaf(0, 4);
    g.leaf(0, 5);
    due.answer("ternary, first part not free", g.ternary(0, 2, 4, 5), -3);
    due.answer("ternary, second part not free", g.ternary(0, 4, 1, 5), -3);
    due.answer("ternary, third part not free", g.ternary(0, 4, 5, 0), -3);
    due.answer("ternary deepest in the third", g.ternary(0, 4, 5, 3), 6);
    due.answer("depth from the third", g.about(6), 35);
    g.leaf(0, 6);
    g.leaf(0, 7);
    due.answer("ternary deepest in the first", g.ternary(0, 6, 7, 8), 9);
    due.answer("depth from the first", g.about(9), 36);
    g.leaf(0, 8);
    g.leaf(0, 9);
    due.answer("ternary deepest in the second", g.ternary(1, 10, 9, 11), 12);
    due.answer("depth from the second", g.about(12), 37);
    due.answer("about the number after the last", g.about(13), -2);
    for (int x : new int[] {-1, 60, MIN, MAX}) {
      due.answer("about " + x, g.about(x), -2);
    }
  }

  private static void depths() {
    Maker m = new Maker();
    int deepest = m.tower(12);
    int eleven = m.tower(11);
    int a = m.num(1);
    int b = m.num(2);
    int before = m.g.expressions();
    due.answer("about the deepest", m.g.about(deepest), 44);
    due.answer("unary too deep", m.g.unary(1, 0, deepest), -5);
    due.answer("binary too deep on the left", m.g.binary(0, deepest, a), -5);
    due.answer("binary too deep on the right", m.g.binary(0, a, deepest), -5);
    due.answer("ternary too deep in the first", m.g.ternary(1, deepest, a, b), -5);
    due.answer("ternary too deep in the second", m.g.ternary(1, a, deepest, b), -5);
    due.answer("ternary too deep in the third", m.g.ternary(1, a, b, deepest), -5);
    due.answer("expressions after refusals", m.g.expressions(), before);
    due.answer("the deepest stays free", m.g.about(deepest), 44);
    due.answer("a part stays free", m.g.about(a), 33);
    due.answer("ternary just deep enough", m.g.ternary(1, a, b, eleven), before);
    due.answer("about it", m.g.about(before), 44);
  }

  private static void fullObject() {
    GoalSearch g = new GoalSearch();
    for (int i = 0; i < 60; i++) {
      due.answer("leaf " + i, g.leaf(0, i), i);
    }
    due.answer("leaf into the full", g.leaf(0, 1), -4);
    due.answer("variable into the full", g.leaf(1, 1), -4);
    due.answer("unary into the full", g.unary(0, 0, 0), -4);
    due.answer("binary into the full", g.binary(0, 0, 1), -4);
    due.answer("ternary into the full", g.ternary(0, 0, 1, 59), -4);
    due.answer("expressions of the full", g.expressions(), 60);
    due.answer("last stays free", g.about(59), 33);
    due.answer("none after the last", g.about(60), -2);
    due.run("the last of the full", g, 59, 9, 0, 1, 59);
  }

  private static void orderOfRefusals() {
    Maker m = new Maker();
    int deepest = m.tower(12);
    int other = m.num(5);
    while (m.g.expressions() < 60) {
      m.num(1);
    }
    due.answer("leaf: -1 before -4", m.g.leaf(2, 0), -1);
    due.answer("leaf of a variable: -1 before -4", m.g.leaf(1, 8), -1);
    due.answer("unary: -1 before -2", m.g.unary(4, 0, 60), -1);
    due.answer("assign: -1 before -2", m.g.unary(0, 8, 60), -1);
    due.answer("unary: -2 before -4", m.g.unary(0, 0, 60), -2);
    due.answer("unary: -3 before -4", m.g.unary(0, 0, 0), -3);
    due.answer("unary: -4 before -5", m.g.unary(0, 0, deepest), -4);
    due.answer("binary: -1 before -2", m.g.binary(12, 60, 60), -1);
    due.answer("binary: -2 before -3", m.g.binary(0, 0, 60), -2);
    due.answer("binary: -3 before -4", m.g.binary(0, 0, other), -3);
    due.answer("binary of one twice: -3 before -4", m.g.binary(0, other, other), -3);
    due.answer("binary: -4 before -5", m.g.binary(0, other, deepest), -4);
    due.answer("ternary: -1 before -2", m.g.ternary(2, 60, 60, 60), -1);
    due.answer("ternary: -2 before -3", m.g.ternary(0, 0, 0, 60), -2);
    due.answer("ternary: -3 before -4", m.g.ternary(0, 0, other, 59), -3);
    due.answer("ternary: -4 before -5", m.g.ternary(0, 58, 59, deepest), -4);

    Maker deep = new Maker();
    int d = deep.tower(12);
    due.answer("unary: -3 before -5", deep.g.unary(1, 0, d - 1), -3);
    due.answer("binary of one twice: -3 before -5", deep.g.binary(1, d, d), -3);
  }
}
