/** Makes expressions on one object under the names that the document gives the kinds. */
final class Maker {
  final GoalSearch g = new GoalSearch();

  int num(int v) { return g.leaf(0, v); }
  int var(int n) { return g.leaf(1, n); }

  int assign(int k, int x) { return g.unary(0, k, x); }
  int write(int x) { return g.unary(1, 0, x); }
  int not(int x) { return g.unary(2, 0, x); }
  int again(int x) { return g.unary(3, 0, x); }

  int either(int x, int y) { return g.binary(0, x, y); }
  int and(int x, int y) { return g.binary(1, x, y); }
  int plus(int x, int y) { return g.binary(2, x, y); }
  int minus(int x, int y) { return g.binary(3, x, y); }
  int times(int x, int y) { return g.binary(4, x, y); }
  int less(int x, int y) { return g.binary(5, x, y); }
  int equal(int x, int y) { return g.binary(6, x, y); }
  int other(int x, int y) { return g.binary(7, x, y); }
  int limit(int x, int y) { return g.binary(8, x, y); }
  int every(int x, int y) { return g.binary(9, x, y); }
  int whilst(int x, int y) { return g.binary(10, x, y); }
  int then(int x, int y) { return g.binary(11, x, y); }

  int to(int x, int y, int z) { return g.ternary(0, x, y, z); }
  int when(int x, int y, int z) { return g.ternary(1, x, y, z); }

  /** Costs 3, and 1 for each value. */
  int range(int a, int b, int c) { return to(num(a), num(b), num(c)); }

  /** Gives nothing, and costs 2. */
  int none() { return less(num(1), num(0)); }

  /** The leaf 0 under so many NOTs that its depth is this. */
  int tower(int depth) {
    int e = num(0);
    for (int d = 1; d < depth; d++) {
      e = not(e);
    }
    return e;
  }
}
