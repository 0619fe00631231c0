/** Promises 10 to 16: begin, next, skip, value, writes, written and cost. */
public final class RunningTest {
  private static final int MIN = Integer.MIN_VALUE;
  private static final int MAX = Integer.MAX_VALUE;
  private static final Due due = new Due();

  public static void main(String[] args) {
    beginRefused();
    refusedBeginForgetsNothing();
    beginForgets();
    partOfSomethingMeanwhile();
    endsStay();
    skipping();
    writing();
    fuel();
    errorsKeepWhatWasDone();
    due.end();
  }

  private static void beginRefused() {
    Maker m = new Maker();
    int part = m.num(1);
    int e = m.write(part);
    for (int x : new int[] {-1, 2, 60, MIN, MAX}) {
      due.answer("begin of " + x, m.g.begin(x, 5), -2);
      due.answer("begin: -2 before -1", m.g.begin(x, -1), -2);
    }
    due.answer("begin of a part", m.g.begin(part, 5), -3);
    due.answer("begin: -3 before -1", m.g.begin(part, 2001), -3);
    for (int fuel : new int[] {-1, 2001, MIN, MAX}) {
      due.answer("begin with fuel " + fuel, m.g.begin(e, fuel), -1);
    }
    due.answer("next after refusals", m.g.next(), -1);
    due.answer("begin with fuel 0", m.g.begin(e, 0), 0);
    due.answer("begin with fuel 2000", m.g.begin(e, 2000), 0);
  }

  private static void refusedBeginForgetsNothing() {
    Maker m = new Maker();
    int e = m.write(m.range(1, 3, 1));
    m.g.begin(e, 50);
    m.g.next();
    m.g.begin(0, 5);
    m.g.begin(e, 2001);
    m.g.begin(99, 5);
    due.answer("value", m.g.value(), 1);
    due.answer("cost", m.g.cost(), 4);
    due.written("refused begin", m.g, 1);
    due.answer("next", m.g.next(), 1);
    due.answer("value", m.g.value(), 2);
    due.answer("skip to the end", m.g.skip(9), 1);
    m.g.begin(e, -1);
    due.answer("next after the end", m.g.next(), 0);
  }

  private static void beginForgets() {
    Maker m = new Maker();
    int e = m.write(m.range(5, 9, 1));
    int f = m.assign(1, m.num(3));
    m.g.begin(e, 50);
    m.g.skip(2);
    due.answer("value", m.g.value(), 6);
    due.answer("begin anew", m.g.begin(e, 50), 0);
    due.answer("value after begin", m.g.value(), 0);
    due.answer("cost after begin", m.g.cost(), 0);
    due.written("after begin", m.g);
    due.answer("next", m.g.next(), 1);
    due.answer("from the beginning", m.g.value(), 5);
    due.answer("cost", m.g.cost(), 4);
    due.run("another one", m.g, f, 1, 0, 1, 3);
    due.written("another one", m.g);
    due.run("after an error it can begin", m.g, e, 4, -5, 4, 5);
    due.run("and be whole", m.g, e, 8, 0, 8, 5, 6, 7, 8, 9);
  }

  private static void partOfSomethingMeanwhile() {
    Maker m = new Maker();
    int e = m.range(1, 4, 1);
    m.g.begin(e, 50);
    due.answer("next", m.g.next(), 1);
    int outer = m.write(e);
    due.answer("next as a part", m.g.next(), 1);
    due.answer("value", m.g.value(), 2);
    due.answer("nothing was written", m.g.writes(), 0);
    due.answer("it cannot begin", m.g.begin(e, 5), -3);
    due.answer("it goes on", m.g.skip(9), 2);
    due.answer("to its end", m.g.next(), 0);
    int whole = m.then(m.num(1), outer);
    due.answer("still at its end", m.g.next(), 0);
    due.run("the whole", m.g, whole, 50, 0, 8, 1, 2, 3, 4);
  }

  private static void endsStay() {
    Maker m = new Maker();
    int e = m.assign(0, m.plus(m.var(0), m.num(1)));
    due.run("assign", m.g, e, 9, 0, 2, 1);
    due.answer("nothing changed by asking on", m.g.variable(0), 1);
    m.g.set(0, MAX);
    due.run("no int", m.g, e, 9, -4, 2);
    m.g.set(0, 5);
    due.answer("the error stays", m.g.next(), -4);
    due.answer("skip after an error", m.g.skip(5), 0);
    due.answer("the variable stays", m.g.variable(0), 5);
    due.answer("making something", m.num(1), 4);
    due.answer("the error stays still", m.g.next(), -4);
  }

  private static void skipping() {
    Maker m = new Maker();
    int e = m.again(m.num(7));
    m.g.begin(e, 2000);
    for (int n : new int[] {0, -1, 101, MIN, MAX}) {
      due.answer("skip " + n, m.g.skip(n), 0);
    }
    due.answer("nothing was asked", m.g.cost(), 0);
    due.answer("skip 1", m.g.skip(1), 1);
    due.answer("cost", m.g.cost(), 1);
    due.answer("skip 100", m.g.skip(100), 100);
    due.answer("cost", m.g.cost(), 101);
    m.g.begin(e, 10);
    due.answer("skip into an error", m.g.skip(50), 10);
    due.answer("the error", m.g.next(), -5);
    int f = m.range(1, 3, 1);
    m.g.begin(f, 50);
    due.answer("skip all but one", m.g.skip(2), 2);
    due.answer("value", m.g.value(), 2);
    due.answer("skip to the end", m.g.skip(2), 1);
    due.answer("value", m.g.value(), 3);
    due.answer("skip at the end", m.g.skip(2), 0);
    due.answer("the end", m.g.next(), 0);
  }

  private static void writing() {
    Maker m = new Maker();
    int e = m.write(m.range(-2, 40, 1));
    m.g.begin(e, 100);
    due.answer("32 can be written", m.g.skip(100), 32);
    due.answer("the next is an error", m.g.next(), -6);
    due.answer("writes", m.g.writes(), 32);
    due.answer("its cost was paid", m.g.cost(), 3 + 33);
    due.answer("value", m.g.value(), 29);
    for (int i = 0; i < 32; i++) {
      due.answer("written " + i, m.g.written(i), i - 2);
    }
    for (int i : new int[] {32, -1, MIN, MAX}) {
      due.answer("written " + i, m.g.written(i), 4294967296L);
    }
    int f = m.either(m.write(m.num(MIN)), m.write(m.num(MAX)));
    due.run("extremes", m.g, f, 9, 0, 2, MIN, MAX);
    due.written("extremes", m.g, MIN, MAX);
  }

  private static void fuel() {
    Maker m = new Maker();
    int e = m.either(m.num(1), m.either(m.var(0), m.range(1, 2, 1)));
    due.run("no fuel", m.g, e, 0, -5, 0);
    due.run("fuel for a number", m.g, e, 1, -5, 1, 1);
    due.run("fuel for a variable", m.g, e, 2, -5, 2, 1, 0);
    due.run("fuel till the bounds", m.g, e, 5, -5, 5, 1, 0);
    due.run("fuel for a value of TO", m.g, e, 6, -5, 6, 1, 0, 1);
    due.run("just enough", m.g, e, 7, 0, 7, 1, 0, 1, 2);

    int whole = m.whilst(m.num(1), m.none());
    due.run("all the fuel", m.g, whole, 2000, -5, 2000);
    due.run("an odd amount", m.g, whole, 1999, -5, 1999);
  }

  private static void errorsKeepWhatWasDone() {
    Maker m = new Maker();
    int counted = m.write(m.assign(5, m.range(1, 9, 1)));
    int e = m.times(counted, m.either(m.num(1), m.num(MAX)));
    due.run("an error late", m.g, e, 99, -4, 9, 1, MAX, 2);
    due.answer("variable", m.g.variable(5), 2);
    due.written("an error late", m.g, 1, 2);
  }
}
