/** Promise 16, cost, and what the terms say of COST and FUEL. */
public final class CostTest {
  private static final int MAX = Integer.MAX_VALUE;
  private static final Due due = new Due();

  public static void main(String[] args) {
    beforeAnyBegin();
    afterBegin();
    afterRefusedBegin();
    afterEveryEnd();
    fuelUsedUpAtEachKindThatCosts();
    fuelUsedUpWhereNothingCosts();
    otherErrorsAtTheLastFuel();
    errorBeforeTheValueIsGiven();
    allTheFuel();
    due.end();
  }

  private static void beforeAnyBegin() {
    due.answer("cost of the new", new GoalSearch().cost(), 0);
    due.answer("cost before any begin", Scenes.made().cost(), 0);
    GoalSearch g = Scenes.made();
    g.begin(8, 5);
    g.next();
    due.answer("cost after a first begin that is refused", g.cost(), 0);
  }

  private static void afterBegin() {
    GoalSearch g = Scenes.begun();
    due.answer("cost after begin", g.cost(), 0);
    g.next();
    due.answer("cost after a result", g.cost(), 4);
    g.next();
    due.answer("cost after another", g.cost(), 5);
    g.begin(5, 50);
    due.answer("cost after begin anew", g.cost(), 0);
  }

  private static void afterRefusedBegin() {
    GoalSearch g = Scenes.midway();
    g.begin(0, 5);
    due.answer("cost after -3", g.cost(), 5);
    g.begin(99, 5);
    due.answer("cost after -2", g.cost(), 5);
    g.begin(5, -1);
    due.answer("cost after -1", g.cost(), 5);
  }

  private static void afterEveryEnd() {
    for (int end : Scenes.ENDS) {
      GoalSearch g = Scenes.ended(end);
      due.answer("cost after " + end, g.cost(), Scenes.costOf(end));
      g.next();
      due.answer("cost after " + end + " again", g.cost(), Scenes.costOf(end));
    }
  }

  private static void fuelUsedUpAtEachKindThatCosts() {
    Maker m = new Maker();
    int e = m.either(m.num(1), m.either(m.var(0), m.range(1, 2, 1)));
    due.run("no fuel", m.g, e, 0, -5, 0);
    due.run("fuel for a number", m.g, e, 1, -5, 1, 1);
    due.run("fuel for a variable", m.g, e, 2, -5, 2, 1, 0);
    due.run("fuel for a first part of TO", m.g, e, 3, -5, 3, 1, 0);
    due.run("fuel for two parts of TO", m.g, e, 4, -5, 4, 1, 0);
    due.run("fuel for the parts of TO", m.g, e, 5, -5, 5, 1, 0);
    due.run("fuel for a value of TO", m.g, e, 6, -5, 6, 1, 0, 1);
    due.run("just enough", m.g, e, 7, 0, 7, 1, 0, 1, 2);
  }

  /** To fail costs nothing, nor do the results of the other kinds, so no error comes there. */
  private static void fuelUsedUpWhereNothingCosts() {
    Maker m = new Maker();
    due.run("a number that fails", m.g, m.num(4), 1, 0, 1, 4);
    due.run("an empty TO", m.g, m.range(2, 1, 1), 3, 0, 3);
    due.run("0 of NOT", m.g, m.not(m.none()), 2, 0, 2, 0);
    due.run("a sum", m.g, m.plus(m.num(4), m.num(5)), 2, 0, 2, 9);
    due.run("an assignment", m.g, m.assign(0, m.num(4)), 1, 0, 1, 4);
    due.run("a written value", m.g, m.write(m.num(4)), 1, 0, 1, 4);
    due.run("a comparison", m.g, m.less(m.num(4), m.num(5)), 2, 0, 2, 5);
    due.run("a limit of 0", m.g, m.limit(m.num(4), m.num(0)), 1, 0, 1);
    due.run("after the limit", m.g, m.limit(m.again(m.num(4)), m.num(2)), 3, 0, 3, 4, 4);
  }

  private static void otherErrorsAtTheLastFuel() {
    Maker m = new Maker();
    due.run("step 0, and no fuel left", m.g, m.range(1, 9, 0), 3, -3, 3);
    due.run("step 0, and no fuel for the step", m.g, m.range(1, 9, 0), 2, -5, 2);
    due.run("no int, and no fuel left", m.g, m.plus(m.num(MAX), m.num(1)), 2, -4, 2);
    due.run("no int, and no fuel for it", m.g, m.plus(m.num(MAX), m.num(1)), 1, -5, 1);
    int e = m.write(m.range(1, 33, 1));
    m.g.begin(e, 36);
    due.answer("32 written", m.g.skip(100), 32);
    due.answer("the 33rd, and no fuel left", m.g.next(), -6);
    due.answer("it was paid", m.g.cost(), 36);
    m.g.begin(e, 35);
    due.answer("32 written", m.g.skip(100), 32);
    due.answer("the 33rd, and no fuel for it", m.g.next(), -5);
    due.answer("it was not paid", m.g.cost(), 35);
  }

  private static void errorBeforeTheValueIsGiven() {
    Maker m = new Maker();
    m.g.set(4, 44);
    int assigned = m.assign(4, m.num(5));
    due.run("no fuel for what is assigned", m.g, assigned, 0, -5, 0);
    due.answer("variable", m.g.variable(4), 44);
    int ranged = m.write(m.assign(4, m.range(1, 3, 1)));
    due.run("no fuel for a value of TO", m.g, ranged, 5, -5, 5, 1, 2);
    due.answer("variable", m.g.variable(4), 2);
    due.written("no fuel for a value of TO", m.g, 1, 2);
  }

  private static void allTheFuel() {
    Maker m = new Maker();
    int endless = m.whilst(m.num(1), m.none());
    due.run("all the fuel", m.g, endless, 2000, -5, 2000);
    due.run("one less", m.g, endless, 1999, -5, 1999);
    int just = m.every(m.range(1, 1997, 1), m.not(m.none()));
    due.run("not enough by far", m.g, just, 2000, -5, 2000);
    int whole = m.less(m.num(5), m.range(6 - 1996, 5, 1));
    due.run("just all of it", m.g, whole, 2000, 0, 2000);
  }
}
