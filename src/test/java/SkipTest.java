/** Promise 12: skip. */
public final class SkipTest {
  private static final int MIN = Integer.MIN_VALUE;
  private static final int MAX = Integer.MAX_VALUE;
  private static final Due due = new Due();

  public static void main(String[] args) {
    noneAsked();
    one();
    hundred();
    fewerThanAsked();
    notOneMoreThanAsked();
    errorOnTheWay();
    atTheEnd();
    beforeAnyBegin();
    due.end();
  }

  private static void noneAsked() {
    for (int n : new int[] {-1, 0, 101, 102, MIN, MAX}) {
      due.noChange("skip " + n, Scenes::midway, g -> g.skip(n), 0);
      due.noChange("skip " + n + " of what was just begun", Scenes::begun, g -> g.skip(n), 0);
    }
  }

  private static void one() {
    GoalSearch g = Scenes.begun();
    for (int i = 1; i <= 4; i++) {
      due.answer("skip 1", g.skip(1), 1);
      due.answer("value", g.value(), i);
    }
    due.answer("skip 1 at the end", g.skip(1), 0);
    due.answer("next", g.next(), 0);
  }

  private static void hundred() {
    Maker m = new Maker();
    m.g.begin(m.range(1, 1000, 1), 2000);
    due.answer("skip 99", m.g.skip(99), 99);
    due.answer("value", m.g.value(), 99);
    due.answer("skip 100", m.g.skip(100), 100);
    due.answer("value", m.g.value(), 199);
    due.answer("cost", m.g.cost(), 3 + 199);
    due.answer("skip 101", m.g.skip(101), 0);
    due.answer("value stays", m.g.value(), 199);
    due.answer("cost stays", m.g.cost(), 3 + 199);
  }

  private static void fewerThanAsked() {
    GoalSearch g = Scenes.midway();
    due.answer("skip 100 with two left", g.skip(100), 2);
    due.answer("value", g.value(), 4);
    due.answer("next", g.next(), 0);
    due.answer("cost", g.cost(), 7);
    g.begin(5, 50);
    due.answer("skip one more than there are", g.skip(5), 4);
    due.answer("skip at the end", g.skip(5), 0);
    due.answer("value at the end", g.value(), 4);
  }

  /** What comes after the n-th result would write, which shows whether it was asked. */
  private static void notOneMoreThanAsked() {
    Maker m = new Maker();
    int e = m.either(m.range(1, 3, 1), m.and(m.write(m.num(9)), m.none()));
    m.g.begin(e, 50);
    due.answer("skip just as many as there are", m.g.skip(3), 3);
    due.answer("not asked once more", m.g.writes(), 0);
    due.answer("cost", m.g.cost(), 6);
    due.answer("skip 1 more", m.g.skip(1), 0);
    due.written("asked once more", m.g, 9);
    due.answer("cost then", m.g.cost(), 9);
  }

  private static void errorOnTheWay() {
    for (int end : Scenes.ENDS) {
      Maker m = new Maker();
      int e = m.either(m.range(1, 3, 1), Scenes.ending(m, end));
      m.g.begin(e, 200);
      due.answer("skip into " + end, m.g.skip(100), 3);
      due.answer("value before " + end, m.g.value(), 3);
      due.answer("next after skip into " + end, m.g.next(), end);
    }
    Maker m = new Maker();
    int counted = m.write(m.assign(3, m.range(1, 9, 1)));
    int e = m.and(counted, m.minus(m.num(MAX), m.minus(m.num(3), m.var(3))));
    m.g.begin(e, 100);
    due.answer("skip into -4 of the fourth", m.g.skip(100), 3);
    due.answer("the error", m.g.next(), -4);
    due.answer("variable at the error", m.g.variable(3), 4);
    due.written("at the error", m.g, 1, 2, 3, 4);
  }

  private static void atTheEnd() {
    for (int end : Scenes.ENDS) {
      for (int n : new int[] {1, 100}) {
        due.noChange("skip " + n + " after " + end, () -> Scenes.ended(end), g -> g.skip(n), 0);
      }
    }
  }

  private static void beforeAnyBegin() {
    for (int n : new int[] {-1, 0, 1, 100, 101}) {
      due.noChange("skip " + n + " before any begin", Scenes::made, g -> g.skip(n), 0);
    }
  }
}
