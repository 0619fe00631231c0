/** Objects in states that several tests look at. */
final class Scenes {
  /** The answers after which next() answers the same till the next begin. */
  static final int[] ENDS = {0, -3, -4, -5, -6};

  private Scenes() {}

  /** 5 is free, 0 .. 4 are parts, 6 and 7 are free leaves; nothing is begun. */
  static GoalSearch made() {
    Maker m = new Maker();
    m.assign(2, m.write(m.range(1, 4, 1)));
    m.num(9);
    m.var(7);
    m.g.set(0, 70);
    m.g.set(7, 77);
    return m.g;
  }

  /** As made(); 5 is begun with fuel 50. */
  static GoalSearch begun() {
    GoalSearch g = made();
    g.begin(5, 50);
    return g;
  }

  /** As begun(); 1 and 2 of its results 1, 2, 3, 4 have come, at a cost of 5. */
  static GoalSearch midway() {
    GoalSearch g = begun();
    g.next();
    g.next();
    return g;
  }

  /** What next() answers is this end; before it came the results 4 and 5, written and in variable 1. */
  static GoalSearch ended(int end) {
    Maker m = new Maker();
    int results = m.write(m.assign(1, m.range(4, 5, 1)));
    m.g.begin(m.either(results, ending(m, end)), end == -5 ? 20 : 100);
    m.g.skip(2);
    m.g.next();
    return m.g;
  }

  /** The cost in ended(): 5 for its results, and what its last part cost. */
  static int costOf(int end) {
    return end == -6 ? 5 + 62 : end == -5 ? 20 : end == -3 ? 5 + 3 : 5 + 2;
  }

  /** Gives no result and ends like this (-5 with any fuel, -6 with enough of it). */
  static int ending(Maker m, int end) {
    switch (end) {
      case -3:
        return m.range(1, 1, 0);
      case -4:
        return m.plus(m.num(Integer.MAX_VALUE), m.num(1));
      case -5:
        return m.whilst(m.num(1), m.num(1));
      case -6:
        return m.every(m.again(m.num(1)), m.write(m.num(8)));
      default:
        return m.none();
    }
  }

  /** 11 is free and of depth 12, 22 is free and of depth 11, 23 .. 25 are free leaves, the others parts. */
  static GoalSearch deep() {
    Maker m = new Maker();
    m.tower(12);
    m.tower(11);
    m.num(1);
    m.num(2);
    m.num(3);
    return m.g;
  }

  /** 60 expressions: 11 is free and of depth 12, 0 .. 10 are parts, 12 .. 59 are free leaves. */
  static GoalSearch full() {
    Maker m = new Maker();
    m.tower(12);
    for (int i = 12; i < 60; i++) {
      m.num(i);
    }
    return m.g;
  }
}
