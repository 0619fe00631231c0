/** The terms: what each kind of expression gives when it is asked, and what that costs. */
public final class KindsTest {
  private static final int MIN = Integer.MIN_VALUE;
  private static final int MAX = Integer.MAX_VALUE;
  private static final Due due = new Due();

  public static void main(String[] args) {
    leaves();
    assign();
    write();
    not();
    again();
    either();
    and();
    arithmetic();
    comparisons();
    limit();
    every();
    whilst();
    then();
    to();
    when();
    due.end();
  }

  private static void leaves() {
    Maker m = new Maker();
    due.run("number", m.g, m.num(-5), 9, 0, 1, -5);
    m.g.set(6, 12);
    due.run("variable", m.g, m.var(6), 9, 0, 1, 12);
  }

  private static void assign() {
    Maker m = new Maker();
    int e = m.assign(1, m.range(4, 6, 1));
    m.g.begin(e, 50);
    for (int want = 4; want <= 6; want++) {
      due.answer("assign: next", m.g.next(), 1);
      due.answer("assign: value", m.g.value(), want);
      due.answer("assign: variable", m.g.variable(1), want);
    }
    due.answer("assign: end", m.g.next(), 0);
    due.answer("assign: nothing is taken back", m.g.variable(1), 6);
    int failing = m.and(m.assign(2, m.num(9)), m.none());
    due.run("assign before a failure", m.g, failing, 9, 0, 3);
    due.answer("assign: nothing is taken back by a failure", m.g.variable(2), 9);
  }

  private static void write() {
    Maker m = new Maker();
    int e = m.write(m.either(m.num(4), m.write(m.num(5))));
    due.run("write", m.g, e, 9, 0, 2, 4, 5);
    due.written("write", m.g, 4, 5, 5);
    int hidden = m.less(m.write(m.num(3)), m.num(2));
    due.run("write of what is no result of all", m.g, hidden, 9, 0, 2);
    due.written("write of what is no result of all", m.g, 3);
    int failing = m.write(m.none());
    due.run("write of nothing", m.g, failing, 9, 0, 2);
    due.written("write of nothing", m.g);
  }

  private static void not() {
    Maker m = new Maker();
    due.run("not of nothing", m.g, m.not(m.none()), 9, 0, 2, 0);
    due.run("not of something", m.g, m.not(m.num(4)), 9, 0, 1);
    due.run("not tries but once", m.g, m.not(m.write(m.either(m.num(1), m.num(2)))), 9, 0, 1);
    due.written("not tries but once", m.g, 1);
    due.run("not of an error", m.g, m.not(m.plus(m.num(MAX), m.num(1))), 9, -4, 2);
    due.run("not not", m.g, m.not(m.not(m.num(3))), 9, 0, 1, 0);
  }

  private static void again() {
    Maker m = new Maker();
    due.run("again", m.g, m.again(m.range(1, 2, 1)), 14, -5, 14, 1, 2, 1, 2, 1);
    due.run("again of nothing", m.g, m.again(m.none()), 9, 0, 2);
    int counted = m.assign(0, m.plus(m.var(0), m.num(1)));
    int e = m.again(m.less(counted, m.num(4)));
    due.run("again till it gives nothing", m.g, e, 99, 0, 12, 4, 4, 4);
    due.answer("again: variable", m.g.variable(0), 4);
    int inner = m.again(m.then(m.assign(1, m.plus(m.var(1), m.num(2))), m.less(m.var(1), m.num(5))));
    due.run("again with a part that runs dry", m.g, inner, 99, 0, 12, 5, 5);
    due.run("again of an error", m.g, m.again(m.range(1, 2, 0)), 99, -3, 3);
  }

  private static void either() {
    Maker m = new Maker();
    due.run("either", m.g, m.either(m.range(1, 2, 1), m.range(8, 9, 1)), 99, 0, 10, 1, 2, 8, 9);
    due.run("either, nothing first", m.g, m.either(m.none(), m.num(3)), 99, 0, 3, 3);
    due.run("either, nothing last", m.g, m.either(m.num(3), m.none()), 99, 0, 3, 3);
    int late = m.either(m.assign(0, m.num(5)), m.var(0));
    due.run("either starts the second when the first has failed", m.g, late, 99, 0, 2, 5, 5);
    due.run("either, error first", m.g, m.either(m.range(1, 1, 0), m.num(3)), 99, -3, 3);
  }

  private static void and() {
    Maker m = new Maker();
    int e = m.and(m.write(m.range(1, 2, 1)), m.either(m.num(7), m.num(8)));
    due.run("and", m.g, e, 99, 0, 9, 7, 8, 7, 8);
    due.written("and", m.g, 1, 2);
    due.run("and, nothing first", m.g, m.and(m.none(), m.write(m.num(1))), 99, 0, 2);
    due.written("and, nothing first", m.g);
    due.run("and, nothing last", m.g, m.and(m.range(1, 3, 1), m.none()), 99, 0, 12);
    due.run("and, error last", m.g, m.and(m.num(1), m.range(1, 1, 0)), 99, -3, 4);
  }

  private static void arithmetic() {
    Maker m = new Maker();
    due.run("plus", m.g, m.plus(m.either(m.num(1), m.num(2)), m.either(m.num(10), m.num(20))), 99, 0, 6,
        11, 21, 12, 22);
    due.run("minus", m.g, m.minus(m.either(m.num(1), m.num(2)), m.either(m.num(10), m.num(20))), 99, 0, 6,
        -9, -19, -8, -18);
    due.run("times", m.g, m.times(m.either(m.num(3), m.num(-2)), m.either(m.num(10), m.num(0))), 99, 0, 6,
        30, 0, -20, 0);
    int kept = m.plus(m.var(0), m.assign(0, m.either(m.num(5), m.num(6))));
    due.run("the first result is kept when the variable changes", m.g, kept, 99, 0, 3, 5, 6);
    int seen = m.plus(m.assign(1, m.num(3)), m.var(1));
    due.run("the second sees what the first assigned", m.g, seen, 99, 0, 2, 6);
  }

  private static void comparisons() {
    Maker m = new Maker();
    due.run("less", m.g, m.less(m.range(1, 3, 1), m.either(m.num(2), m.num(3))), 99, 0, 12, 2, 3, 3);
    due.run("equal", m.g, m.equal(m.range(1, 3, 1), m.either(m.num(2), m.num(3))), 99, 0, 12, 2, 3);
    due.run("other", m.g, m.other(m.range(1, 3, 1), m.either(m.num(2), m.num(3))), 99, 0, 12, 2, 3, 3, 2);
    due.run("least less than greatest", m.g, m.less(m.num(MIN), m.num(MAX)), 9, 0, 2, MAX);
    due.run("greatest not less than least", m.g, m.less(m.num(MAX), m.num(MIN)), 9, 0, 2);
    due.run("not less than itself", m.g, m.less(m.num(4), m.num(4)), 9, 0, 2);
  }

  private static void limit() {
    Maker m = new Maker();
    due.run("limit", m.g, m.limit(m.write(m.range(5, 9, 1)), m.num(2)), 99, 0, 6, 5, 6);
    due.written("limit does not ask once more", m.g, 5, 6);
    due.run("limit beyond the end", m.g, m.limit(m.range(5, 6, 1), m.num(MAX)), 99, 0, 6, 5, 6);
    due.run("limit 0", m.g, m.limit(m.write(m.num(1)), m.num(0)), 99, 0, 1);
    due.written("limit 0", m.g);
    due.run("limit below 0", m.g, m.limit(m.write(m.num(1)), m.num(MIN)), 99, 0, 1);
    due.written("limit below 0", m.g);
    int several = m.limit(m.range(1, 9, 1), m.either(m.num(2), m.either(m.num(-1), m.num(3))));
    due.run("limit for each result", m.g, several, 99, 0, 14, 1, 2, 1, 2, 3);
    int order = m.limit(m.assign(0, m.num(4)), m.var(0));
    due.run("limit asks for the bound first", m.g, order, 99, 0, 1);
  }

  private static void every() {
    Maker m = new Maker();
    int e = m.every(m.write(m.range(1, 3, 1)), m.write(m.either(m.num(7), m.num(8))));
    due.run("every", m.g, e, 99, 0, 9);
    due.written("every", m.g, 1, 7, 2, 7, 3, 7);
    due.run("every, the second fails", m.g, m.every(m.range(1, 3, 1), m.none()), 99, 0, 12);
    due.run("every, error in the first", m.g, m.every(m.range(1, 3, 0), m.num(1)), 99, -3, 3);
    due.run("every, error in the second", m.g, m.every(m.num(1), m.range(1, 3, 0)), 99, -3, 4);
  }

  private static void whilst() {
    Maker m = new Maker();
    int tested = m.less(m.var(0), m.num(3));
    int e = m.whilst(tested, m.write(m.assign(0, m.plus(m.var(0), m.num(1)))));
    due.run("while", m.g, e, 99, 0, 14);
    due.written("while", m.g, 1, 2, 3);
    int tries = m.whilst(m.either(m.less(m.var(1), m.num(2)), m.none()),
        m.and(m.assign(1, m.plus(m.var(1), m.num(1))), m.none()));
    due.run("while, the second fails", m.g, tries, 99, 0, 16);
    due.answer("while: variable", m.g.variable(1), 2);
    due.run("while, error in the first", m.g, m.whilst(m.range(1, 3, 0), m.num(1)), 99, -3, 3);
    due.run("while, error in the second", m.g, m.whilst(m.num(1), m.range(1, 3, 0)), 99, -3, 4);
    due.run("while without an end", m.g, m.whilst(m.num(1), m.num(1)), 99, -5, 99);
  }

  private static void then() {
    Maker m = new Maker();
    int e = m.then(m.write(m.range(1, 3, 1)), m.write(m.range(8, 9, 1)));
    due.run("then", m.g, e, 99, 0, 9, 8, 9);
    due.written("then", m.g, 1, 8, 9);
    due.run("then, the first fails", m.g, m.then(m.none(), m.num(4)), 99, 0, 3, 4);
    due.run("then, the second fails", m.g, m.then(m.num(4), m.none()), 99, 0, 3);
    due.run("then, error in the first", m.g, m.then(m.range(1, 3, 0), m.num(1)), 99, -3, 3);
  }

  private static void to() {
    Maker m = new Maker();
    due.run("to upwards", m.g, m.range(1, 7, 3), 99, 0, 6, 1, 4, 7);
    due.run("to past its end", m.g, m.range(1, 6, 3), 99, 0, 5, 1, 4);
    due.run("to downwards", m.g, m.range(3, -1, -2), 99, 0, 6, 3, 1, -1);
    due.run("to of one", m.g, m.range(3, 3, -5), 99, 0, 4, 3);
    due.run("to upwards, empty", m.g, m.range(3, 2, 1), 99, 0, 3);
    due.run("to downwards, empty", m.g, m.range(2, 3, -1), 99, 0, 3);
    due.run("to with step 0", m.g, m.range(1, 3, 0), 99, -3, 3);
    due.run("to with step 0, though empty", m.g, m.range(3, 1, 0), 99, -3, 3);
    int nested = m.to(m.either(m.num(1), m.num(2)), m.either(m.num(2), m.num(3)), m.either(m.num(1), m.num(2)));
    due.run("to over all", m.g, nested, 99, 0, 2 + 4 + 8 + 13,
        1, 2, 1, 1, 2, 3, 1, 3, 2, 2, 2, 3, 2);
  }

  private static void when() {
    Maker m = new Maker();
    int yes = m.when(m.write(m.range(1, 3, 1)), m.range(4, 5, 1), m.write(m.num(9)));
    due.run("if so", m.g, yes, 99, 0, 9, 4, 5);
    due.written("if so", m.g, 1);
    due.run("if not", m.g, m.when(m.none(), m.write(m.num(9)), m.range(4, 5, 1)), 99, 0, 7, 4, 5);
    due.written("if not", m.g);
    due.run("if so, but it fails", m.g, m.when(m.num(1), m.none(), m.num(4)), 99, 0, 3);
    due.run("if in error", m.g, m.when(m.range(1, 1, 0), m.num(2), m.num(4)), 99, -3, 3);
  }
}
