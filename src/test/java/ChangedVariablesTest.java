/**
 * The terms, where parts change the variables that other parts read: a variable is read when its
 * VARIABLE is asked, what was given is kept, and nothing is taken back.
 */
public final class ChangedVariablesTest {
  private static final Due due = new Due();

  public static void main(String[] args) {
    readWhenAsked();
    firstOfAPairIsKept();
    firstOfAPairIsReadOnceForEachResult();
    rangeIsKept();
    rangeIsReadAnew();
    limitIsKept();
    limitIsReadAnew();
    branchIsKept();
    loops();
    againReadsAnew();
    nothingIsTakenBackByAFailure();
    nothingIsTakenBackByMore();
    nothingIsTakenBackByAnError();
    setBetweenResults();
    due.end();
  }

  private static int counted(Maker m, int n) {
    return m.assign(n, m.plus(m.var(n), m.num(1)));
  }

  private static void readWhenAsked() {
    Maker m = new Maker();
    m.g.set(0, 1);
    GoalSearch g = m.g;
    int e = m.either(m.var(0), m.either(m.assign(0, m.num(2)), m.var(0)));
    due.run("before and after", g, e, 9, 0, 3, 1, 2, 2);
    due.run("itself", g, m.assign(0, m.var(0)), 9, 0, 1, 2);
    due.run("its own sum", g, m.assign(0, m.plus(m.var(0), m.assign(0, m.plus(m.var(0), m.num(5))))), 9, 0, 3, 9);
    due.answer("variable", g.variable(0), 9);
  }

  private static void firstOfAPairIsKept() {
    int[][] wants = {{7, 8}, {7, 8}, {-7, -8}, {0, 0}, {7, 8}, {}, {7, 8}};
    for (int kind = 1; kind <= 7; kind++) {
      Maker m = new Maker();
      int e = m.g.binary(kind, m.var(0), m.assign(0, m.either(m.num(7), m.num(8))));
      due.run("binary " + kind + " of a variable that the second part sets", m.g, e, 9, 0, 3, wants[kind - 1]);
      due.answer("variable", m.g.variable(0), 8);
    }
  }

  private static void firstOfAPairIsReadOnceForEachResult() {
    Maker m = new Maker();
    int e = m.plus(m.either(m.var(0), m.var(0)), m.assign(0, m.either(m.num(10), m.num(20))));
    due.run("0 + 10, 0 + 20, 20 + 10, 20 + 20", m.g, e, 99, 0, 6, 10, 20, 30, 40);
    int triangle = m.and(m.assign(0, m.range(1, 3, 1)), m.to(m.num(1), m.var(0), m.num(1)));
    due.run("1 to 1, 1 to 2, 1 to 3", m.g, triangle, 99, 0, 6 + 9 + 6, 1, 1, 2, 1, 2, 3);
  }

  private static void rangeIsKept() {
    Maker m = new Maker();
    m.g.set(0, 1);
    m.g.set(1, 3);
    m.g.set(2, 1);
    int range = m.to(m.var(0), m.var(1), m.var(2));
    int spoilt = m.and(m.assign(3, range), m.and(m.assign(0, m.num(90)), m.and(m.assign(1, m.num(0)),
        m.and(m.assign(2, m.num(0)), m.var(3)))));
    due.run("start, end and step are kept", m.g, spoilt, 99, 0, 3 + 3 + 12, 1, 2, 3);
    m.g.set(0, 2);
    int grown = m.every(m.to(m.num(1), m.var(0), m.num(1)), counted(m, 0));
    due.run("the end does not run away", m.g, grown, 99, 0, 3 + 2 + 4);
    due.answer("variable", m.g.variable(0), 4);
  }

  private static void rangeIsReadAnew() {
    Maker m = new Maker();
    int e = m.to(m.either(m.num(1), m.num(2)), m.assign(0, m.either(m.num(2), m.num(3))), m.var(0));
    due.run("the step is the end, each time", m.g, e, 99, 0, 2 + 4 + 4 + 4, 1, 1, 2, 2);
    int zero = m.to(m.num(1), m.num(1), m.either(m.var(1), m.num(1)));
    m.g.set(1, 4);
    due.run("a step that is not 0", m.g, zero, 99, 0, 4 + 2, 1, 1);
    m.g.set(1, 0);
    due.run("a step that is 0", m.g, zero, 99, -3, 3);
  }

  private static void limitIsKept() {
    Maker m = new Maker();
    m.g.set(0, 3);
    int e = m.limit(m.again(m.assign(0, m.num(1))), m.var(0));
    due.run("three, though the variable is 1 then", m.g, e, 99, 0, 4, 1, 1, 1);
    due.answer("variable", m.g.variable(0), 1);
  }

  private static void limitIsReadAnew() {
    Maker m = new Maker();
    m.g.set(0, 2);
    int x = m.either(m.assign(0, m.num(1)), m.either(m.num(8), m.num(9)));
    due.run("two and then one", m.g, m.limit(x, m.either(m.var(0), m.var(0))), 99, 0, 5, 1, 8, 1);
  }

  private static void branchIsKept() {
    Maker m = new Maker();
    int e = m.when(m.less(m.var(0), m.num(5)), m.assign(0, m.range(7, 9, 1)), m.num(1));
    due.run("so, to the end", m.g, e, 99, 0, 2 + 6, 7, 8, 9);
    due.run("not so the next time", m.g, e, 99, 0, 2 + 1, 1);
    int not = m.when(m.less(m.num(1), m.var(1)), m.num(1), m.assign(1, m.range(7, 9, 1)));
    due.run("not so, to the end", m.g, not, 99, 0, 2 + 6, 7, 8, 9);
    due.run("so the next time", m.g, not, 99, 0, 2 + 1, 1);
  }

  private static void loops() {
    Maker m = new Maker();
    int e = m.every(m.assign(0, m.range(1, 3, 1)), m.assign(1, m.plus(m.var(1), m.var(0))));
    due.run("every: the sum of 1 to 3", m.g, e, 99, 0, 6 + 6);
    due.answer("every: the sum", m.g.variable(1), 6);
    m.g.set(0, 4);
    m.g.set(2, 1);
    int body = m.and(m.assign(2, m.times(m.var(2), m.var(0))), m.assign(0, m.minus(m.var(0), m.num(1))));
    int product = m.then(m.whilst(m.less(m.num(0), m.var(0)), body), m.var(2));
    due.run("while: the product of 4 to 1", m.g, product, 99, 0, 4 * 6 + 2 + 1, 24);
  }

  private static void againReadsAnew() {
    Maker m = new Maker();
    int e = m.again(m.less(m.var(0), m.assign(0, m.either(m.num(1), m.num(2)))));
    due.run("1 and 2 are more than 0, nothing is more than 2", m.g, e, 99, 0, 6, 1, 2);
    due.answer("variable", m.g.variable(0), 2);
    due.run("the same from 2", m.g, e, 99, 0, 3);
  }

  private static void nothingIsTakenBackByAFailure() {
    Maker m = new Maker();
    GoalSearch g = m.g;
    due.run("and", g, m.and(m.assign(0, m.num(5)), m.none()), 99, 0, 3);
    due.run("less", g, m.less(m.assign(1, m.num(5)), m.assign(2, m.num(4))), 99, 0, 2);
    due.run("not", g, m.not(m.assign(3, m.num(6))), 99, 0, 1);
    due.run("not of nothing", g, m.not(m.and(m.assign(4, m.num(7)), m.none())), 99, 0, 3, 0);
    due.run("then", g, m.then(m.and(m.write(m.assign(5, m.num(8))), m.none()), m.var(5)), 99, 0, 4, 8);
    due.written("then", g, 8);
    due.run("if", g, m.when(m.and(m.write(m.assign(6, m.num(9))), m.none()), m.num(1), m.var(6)), 99, 0, 4, 9);
    due.written("if", g, 9);
    for (int n = 0; n <= 6; n++) {
      due.answer("variable " + n, g.variable(n), new int[] {5, 5, 4, 6, 7, 8, 9}[n]);
    }
  }

  private static void nothingIsTakenBackByMore() {
    Maker m = new Maker();
    int e = m.either(m.write(m.assign(0, m.num(5))), m.either(m.none(), m.var(0)));
    due.run("what the first of two has set and written", m.g, e, 99, 0, 4, 5, 5);
    due.written("what the first of two has written", m.g, 5);
    int sums = m.again(m.write(counted(m, 1)));
    m.g.begin(sums, 6);
    due.answer("three of them", m.g.skip(100), 3);
    due.answer("variable", m.g.variable(1), 3);
    due.written("each of them", m.g, 1, 2, 3);
  }

  private static void nothingIsTakenBackByAnError() {
    for (int end : Scenes.ENDS) {
      Maker m = new Maker();
      int e = m.and(m.write(m.assign(0, m.range(5, 6, 1))), m.either(m.num(1), Scenes.ending(m, end)));
      m.g.begin(e, 300);
      due.answer("results before " + end, m.g.skip(100), end == 0 ? 2 : 1);
      due.answer("the end " + end, m.g.next(), end);
      due.answer("variable after " + end, m.g.variable(0), end == 0 ? 6 : 5);
      due.answer("the first written after " + end, m.g.written(0), 5);
      due.answer("begin after " + end, m.g.begin(e, 4), 0);
      due.answer("the variable stays", m.g.variable(0), end == 0 ? 6 : 5);
      due.written("what was written does not", m.g);
    }
  }

  private static void setBetweenResults() {
    Maker m = new Maker();
    GoalSearch g = m.g;
    int e = m.plus(m.either(m.var(0), m.var(0)), m.either(m.num(0), m.var(1)));
    g.begin(e, 99);
    due.answer("next", g.next(), 1);
    due.answer("0 + 0", g.value(), 0);
    due.answer("set 0", g.set(0, 500), 0);
    due.answer("set 1", g.set(1, 30), 0);
    due.answer("value stays", g.value(), 0);
    due.answer("next", g.next(), 1);
    due.answer("0, as it was, + 30", g.value(), 30);
    due.answer("next", g.next(), 1);
    due.answer("500 + 0", g.value(), 500);
    due.answer("set 1", g.set(1, Integer.MAX_VALUE), 30);
    due.answer("500 and too much", g.next(), -4);
    due.answer("set 1", g.set(1, 1), Integer.MAX_VALUE);
    due.answer("an end stays, whatever is set", g.next(), -4);
    due.answer("value", g.value(), 500);
  }
}
