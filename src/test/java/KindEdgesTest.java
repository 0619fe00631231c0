/** The terms: what each kind of expression gives at the edges that the document names. */
public final class KindEdgesTest {
  private static final int MIN = Integer.MIN_VALUE;
  private static final int MAX = Integer.MAX_VALUE;
  private static final int PLUS = 2;
  private static final int MINUS = 3;
  private static final int TIMES = 4;
  private static final int LESS = 5;
  private static final int EQUAL = 6;
  private static final int OTHER = 7;
  private static final Due due = new Due();

  public static void main(String[] args) {
    writeWith32Written();
    writeOfWhatWasWritten();
    notOfWhatFailsAtOnce();
    notOfWhatGives();
    againOfWhatFailsAtOnce();
    againTillAStartGivesNothing();
    eitherAndAndOfNothing();
    plusBeyondInts();
    minusBeyondInts();
    timesBeyondInts();
    noIntEndsThePairs();
    comparisonsAtTheEnds();
    limitOfZeroOrLess();
    limitAtTheNumberOfResults();
    limitForEachBound();
    loopsThatNeverTurn();
    toUpwards();
    toDownwards();
    toWithStepZero();
    toUpToTheEndsOfInts();
    toWithoutSomePart();
    deepest();
    due.end();
  }

  private static void writeWith32Written() {
    Maker m = new Maker();
    int e = m.then(m.every(m.range(1, 31, 1), m.write(m.num(6))), m.write(m.either(m.num(7), m.num(8))));
    m.g.begin(e, 200);
    due.answer("the 32nd is written", m.g.next(), 1);
    due.answer("writes", m.g.writes(), 32);
    due.answer("the last", m.g.written(31), 7);
    due.answer("the 33rd is an error", m.g.next(), -6);
    due.answer("writes stay", m.g.writes(), 32);
    due.answer("the last stays", m.g.written(31), 7);
    due.answer("value stays", m.g.value(), 7);
    due.answer("next after the error", m.g.next(), -6);

    int fits = m.either(m.write(m.range(1, 32, 1)), m.and(m.num(1), m.write(m.none())));
    m.g.begin(fits, 200);
    due.answer("32 are written", m.g.skip(100), 32);
    due.answer("no error where nothing more would be written", m.g.next(), 0);
  }

  private static void writeOfWhatWasWritten() {
    Maker m = new Maker();
    int e = m.then(m.every(m.range(1, 31, 1), m.write(m.num(6))), m.write(m.write(m.num(7))));
    due.run("the inner one is the 32nd", m.g, e, 200, -6, 3 + 31 + 31 + 1);
    due.answer("writes", m.g.writes(), 32);
    due.answer("the last", m.g.written(31), 7);
  }

  private static void notOfWhatFailsAtOnce() {
    Maker m = new Maker();
    due.run("not of nothing", m.g, m.not(m.none()), 9, 0, 2, 0);
    due.run("not of a limit of 0", m.g, m.not(m.limit(m.num(5), m.num(0))), 9, 0, 1, 0);
    due.run("not of an empty range", m.g, m.not(m.range(2, 1, 1)), 9, 0, 3, 0);
    due.run("not of what never gives", m.g, m.not(m.every(m.num(1), m.num(2))), 9, 0, 2, 0);
    int twice = m.and(m.either(m.num(1), m.num(2)), m.not(m.and(m.write(m.num(5)), m.none())));
    due.run("not, started twice", m.g, twice, 99, 0, 8, 0, 0);
    due.written("not, started twice", m.g, 5, 5);
  }

  private static void notOfWhatGives() {
    Maker m = new Maker();
    due.run("not of a number", m.g, m.not(m.num(0)), 9, 0, 1);
    due.run("not of several", m.g, m.not(m.write(m.range(1, 3, 1))), 9, 0, 4);
    due.written("not asks but once", m.g, 1);
  }

  private static void againOfWhatFailsAtOnce() {
    Maker m = new Maker();
    due.run("again of nothing", m.g, m.again(m.none()), 99, 0, 2);
    due.run("again of again of nothing", m.g, m.again(m.again(m.none())), 99, 0, 2);
    due.run("again of what never gives", m.g, m.again(m.every(m.write(m.num(1)), m.num(2))), 99, 0, 2);
    due.written("again of what never gives starts it once", m.g, 1);
  }

  private static void againTillAStartGivesNothing() {
    Maker m = new Maker();
    m.g.set(0, 3);
    int shrinking = m.then(m.assign(0, m.minus(m.var(0), m.num(1))), m.to(m.num(1), m.var(0), m.num(1)));
    due.run("two results, one, none", m.g, m.again(shrinking), 99, 0, 7 + 6 + 5, 1, 2, 1);
    due.run("without an end", m.g, m.again(m.num(4)), 3, -5, 3, 4, 4, 4);
  }

  private static void eitherAndAndOfNothing() {
    Maker m = new Maker();
    due.run("either of nothing and nothing", m.g, m.either(m.none(), m.none()), 99, 0, 4);
    due.run("and of nothing and nothing", m.g, m.and(m.none(), m.none()), 99, 0, 2);
    due.run("and of something and nothing", m.g, m.and(m.num(1), m.none()), 99, 0, 3);
  }

  private static void pair(int kind, int r, int s, int end, int... results) {
    Maker m = new Maker();
    String what = "binary " + kind + " of " + r + " and " + s;
    due.run(what, m.g, m.g.binary(kind, m.num(r), m.num(s)), 9, end, 2, results);
  }

  private static void plusBeyondInts() {
    pair(PLUS, MAX - 1, 1, 0, MAX);
    pair(PLUS, MAX, 0, 0, MAX);
    pair(PLUS, MAX, 1, -4);
    pair(PLUS, 1, MAX, -4);
    pair(PLUS, MAX, MAX, -4);
    pair(PLUS, MIN + 1, -1, 0, MIN);
    pair(PLUS, MIN, 0, 0, MIN);
    pair(PLUS, MIN, -1, -4);
    pair(PLUS, -1, MIN, -4);
    pair(PLUS, MIN, MIN, -4);
    pair(PLUS, MIN, MAX, 0, -1);
  }

  private static void minusBeyondInts() {
    pair(MINUS, MAX - 1, -1, 0, MAX);
    pair(MINUS, MAX, -1, -4);
    pair(MINUS, MIN + 1, 1, 0, MIN);
    pair(MINUS, MIN, 1, -4);
    pair(MINUS, -1, MAX, 0, MIN);
    pair(MINUS, -2, MAX, -4);
    pair(MINUS, -1, MIN, 0, MAX);
    pair(MINUS, 0, MIN, -4);
    pair(MINUS, MIN, MIN, 0, 0);
    pair(MINUS, MAX, MIN, -4);
    pair(MINUS, MIN, MAX, -4);
  }

  private static void timesBeyondInts() {
    pair(TIMES, 46340, 46340, 0, 2147395600);
    pair(TIMES, 46341, 46341, -4);
    pair(TIMES, -46341, 46341, -4);
    pair(TIMES, MAX, 1, 0, MAX);
    pair(TIMES, MAX, -1, 0, MIN + 1);
    pair(TIMES, MAX, 2, -4);
    pair(TIMES, MAX, MAX, -4);
    pair(TIMES, MIN, 1, 0, MIN);
    pair(TIMES, MIN, -1, -4);
    pair(TIMES, -1, MIN, -4);
    pair(TIMES, MIN, 0, 0, 0);
    pair(TIMES, MIN, MIN, -4);
    pair(TIMES, MIN, MAX, -4);
    pair(TIMES, 65536, -32768, 0, MIN);
    pair(TIMES, 65536, 32768, -4);
    pair(TIMES, 65536, 65536, -4);
  }

  private static void noIntEndsThePairs() {
    for (int kind = PLUS; kind <= TIMES; kind++) {
      Maker m = new Maker();
      int x = m.either(m.num(2), m.write(m.num(3)));
      int bad = kind == MINUS ? MIN : MAX;
      int e = m.g.binary(kind, x, m.either(m.num(0), m.either(m.num(bad), m.write(m.num(1)))));
      due.run("kind " + kind + ", the second pair is no int", m.g, e, 99, -4, 3, kind == TIMES ? 0 : 2);
      due.written("kind " + kind + ", nothing after it", m.g);
    }
  }

  private static void comparisonsAtTheEnds() {
    pair(LESS, MIN, MAX, 0, MAX);
    pair(LESS, MAX, MIN, 0);
    pair(LESS, MAX - 1, MAX, 0, MAX);
    pair(LESS, MAX, MAX, 0);
    pair(LESS, MIN, MIN, 0);
    pair(LESS, MIN, MIN + 1, 0, MIN + 1);
    pair(LESS, 0, MIN, 0);
    pair(EQUAL, MIN, MIN, 0, MIN);
    pair(EQUAL, MIN, MAX, 0);
    pair(EQUAL, 0, 0, 0, 0);
    pair(OTHER, MIN, MIN, 0);
    pair(OTHER, MIN, MAX, 0, MAX);
    pair(OTHER, 0, 0, 0);
  }

  private static void limitOfZeroOrLess() {
    for (int n : new int[] {0, -1, MIN}) {
      Maker m = new Maker();
      due.run("limit " + n, m.g, m.limit(m.write(m.num(1)), m.num(n)), 99, 0, 1);
      due.written("limit " + n, m.g);
    }
  }

  /** x has two results, and writes when it is asked for a third. */
  private static void limitAtTheNumberOfResults() {
    for (int n : new int[] {1, 2, 3, MAX}) {
      Maker m = new Maker();
      int x = m.either(m.num(7), m.either(m.num(8), m.and(m.write(m.num(9)), m.none())));
      int e = m.limit(x, m.num(n));
      if (n == 1) {
        due.run("limit 1", m.g, e, 99, 0, 2, 7);
      } else {
        due.run("limit " + n, m.g, e, 99, 0, n == 2 ? 3 : 6, 7, 8);
      }
      due.answer("limit " + n + ": asked for a third", m.g.writes(), n > 2 ? 1 : 0);
    }
  }

  private static void limitForEachBound() {
    Maker m = new Maker();
    int bounds = m.either(m.either(m.num(0), m.num(2)), m.either(m.num(MIN), m.either(m.num(1), m.num(0))));
    int e = m.limit(m.range(1, 9, 1), bounds);
    due.run("limit 0, 2, the least, 1, 0", m.g, e, 99, 0, 5 + 6 + 3, 1, 2, 1);
    due.run("limit by nothing", m.g, m.limit(m.write(m.num(1)), m.none()), 99, 0, 2);
    due.written("limit by nothing", m.g);
  }

  private static void loopsThatNeverTurn() {
    Maker m = new Maker();
    due.run("every of nothing", m.g, m.every(m.none(), m.write(m.num(1))), 99, 0, 2);
    due.written("every of nothing", m.g);
    due.run("while of nothing", m.g, m.whilst(m.none(), m.write(m.num(1))), 99, 0, 2);
    due.written("while of nothing", m.g);
    due.run("then of nothing", m.g, m.then(m.none(), m.none()), 99, 0, 4);
    due.run("if of nothing", m.g, m.when(m.none(), m.write(m.num(1)), m.none()), 99, 0, 4);
    due.written("if of nothing", m.g);
  }

  private static void range(int a, int b, int c, int... results) {
    Maker m = new Maker();
    due.run("to " + a + " " + b + " " + c, m.g, m.range(a, b, c), 99, 0, 3 + results.length, results);
  }

  private static void toUpwards() {
    range(1, 7, 3, 1, 4, 7);
    range(1, 6, 3, 1, 4);
    range(1, 8, 3, 1, 4, 7);
    range(3, 3, 1, 3);
    range(3, 3, MAX, 3);
    range(3, 2, 1);
    range(MAX, MIN, 1);
    range(-1, 1, 1, -1, 0, 1);
  }

  private static void toDownwards() {
    range(7, 1, -3, 7, 4, 1);
    range(7, 2, -3, 7, 4);
    range(7, 0, -3, 7, 4, 1);
    range(3, 3, -1, 3);
    range(3, 3, MIN, 3);
    range(3, 4, -1);
    range(MIN, MAX, -1);
    range(1, -1, -1, 1, 0, -1);
  }

  private static void toWithStepZero() {
    for (int b : new int[] {2, 3, 4, MIN, MAX}) {
      Maker m = new Maker();
      due.run("to 3 " + b + " 0", m.g, m.range(3, b, 0), 99, -3, 3);
    }
    Maker m = new Maker();
    int later = m.to(m.num(1), m.num(2), m.either(m.num(1), m.either(m.num(0), m.write(m.num(1)))));
    due.run("step 0 after another", m.g, later, 99, -3, 3 + 2 + 1, 1, 2);
    due.written("step 0 after another", m.g);
  }

  private static void toUpToTheEndsOfInts() {
    range(MAX, MAX, 1, MAX);
    range(MAX - 1, MAX, 1, MAX - 1, MAX);
    range(MAX - 2, MAX, 2, MAX - 2, MAX);
    range(MAX - 1, MAX, 2, MAX - 1);
    range(MAX, MAX, MAX, MAX);
    range(0, MAX, MAX, 0, MAX);
    range(1, MAX, MAX, 1);
    range(MIN, MAX, MAX, MIN, -1, MAX - 1);
    range(MIN, MIN, -1, MIN);
    range(MIN + 1, MIN, -1, MIN + 1, MIN);
    range(MIN + 2, MIN, -2, MIN + 2, MIN);
    range(MIN + 1, MIN, -2, MIN + 1);
    range(MIN, MIN, MIN, MIN);
    range(0, MIN, MIN, 0, MIN);
    range(-1, MIN, MIN, -1);
    range(MAX, MIN, MIN, MAX, -1);

    Maker m = new Maker();
    int e = m.to(m.num(MAX), m.num(MAX), m.either(m.num(MAX), m.num(1)));
    due.run("on to the next step after an end", m.g, e, 99, 0, 6, MAX, MAX);
    due.run("over all ints", m.g, m.range(MIN, MAX, 1), 5, -5, 5, MIN, MIN + 1);
    due.run("down over all ints", m.g, m.range(MAX, MIN, -1), 5, -5, 5, MAX, MAX - 1);
  }

  private static void toWithoutSomePart() {
    Maker m = new Maker();
    due.run("to without a first", m.g, m.to(m.none(), m.write(m.num(1)), m.write(m.num(1))), 99, 0, 2);
    due.written("to without a first", m.g);
    due.run("to without an end", m.g, m.to(m.range(1, 2, 1), m.none(), m.write(m.num(1))), 99, 0, 9);
    due.written("to without an end", m.g);
    due.run("to without a step", m.g, m.to(m.num(1), m.either(m.num(4), m.num(5)), m.none()), 99, 0, 7);
    int changed = m.to(m.var(0), m.assign(0, m.num(2)), m.assign(0, m.num(1)));
    due.run("to keeps what it was given", m.g, changed, 99, 0, 6, 0, 1, 2);
  }

  private static void deepest() {
    Maker m = new Maker();
    due.run("eleven times not", m.g, m.tower(12), 9, 0, 1);
    due.run("ten times not", m.g, m.tower(11), 9, 0, 1, 0);
    int e = m.num(1);
    for (int depth = 2; depth <= 12; depth++) {
      e = m.plus(e, m.num(1));
    }
    due.run("a sum of twelve", m.g, e, 12, 0, 12, 12);
  }
}
