import java.util.Random;

/** Runs of calls, drawn from fixed seeds, that the program and the model must answer alike. */
public final class ModelTest {
  private static final int RUNS = 1500;
  private static final int CALLS = 512;
  private static final int[] EDGES = {Integer.MIN_VALUE, Integer.MAX_VALUE, Integer.MIN_VALUE + 1,
      Integer.MAX_VALUE - 1, 65536, -1, 60, 59};

  private final Random random;
  private final GoalSearch g = new GoalSearch();
  private final Model model = new Model();
  private final Due due;
  private final String run;

  private ModelTest(int seed, Due due) {
    random = new Random(seed);
    this.due = due;
    run = "seed " + seed + ": ";
  }

  public static void main(String[] args) {
    Due due = new Due();
    for (int seed = 0; seed < RUNS && due.isClean(); seed++) {
      new ModelTest(seed, due).compare();
    }
    due.end();
  }

  private void compare() {
    int making = 20 + random.nextInt(250);
    for (int i = 0; i < CALLS && due.isClean(); i++) {
      if (random.nextInt(CALLS) < (i < making ? 400 : 40)) {
        makeSomething();
      } else {
        useSomething();
      }
    }
  }

  private int small() {
    return random.nextInt(12) == 0 ? EDGES[random.nextInt(EDGES.length)] : random.nextInt(9) - 3;
  }

  private int kindBelow(int bound) {
    return random.nextInt(40) == 0 ? small() : random.nextInt(bound);
  }

  private int variableNumber() {
    return random.nextInt(25) == 0 ? small() : random.nextInt(3);
  }

  private int expression() {
    if (random.nextInt(30) == 0 || model.expressions() == 0) {
      return small();
    }
    // The model is asked, so that the program gets no more calls than the document speaks of.
    int x = random.nextInt(model.expressions());
    for (int i = 0; i < 20 && model.about(x) < 32; i++) {
      x = random.nextInt(model.expressions());
    }
    return x;
  }

  private void makeSomething() {
    int x = expression();
    int y = expression();
    int z = expression();
    int draw = random.nextInt(100);
    if (draw < 40) {
      int kind = kindBelow(2);
      int v = kind == 1 ? variableNumber() : small();
      due.answer(run + "leaf(" + kind + ", " + v + ")", g.leaf(kind, v), model.leaf(kind, v));
    } else if (draw < 58) {
      int kind = kindBelow(4);
      int k = variableNumber();
      due.answer(run + "unary(" + kind + ", " + k + ", " + x + ")", g.unary(kind, k, x), model.unary(kind, k, x));
    } else if (draw < 88) {
      int kind = kindBelow(12);
      due.answer(run + "binary(" + kind + ", " + x + ", " + y + ")", g.binary(kind, x, y), model.binary(kind, x, y));
    } else {
      int kind = kindBelow(2);
      due.answer(run + "ternary(" + kind + ", " + x + ", " + y + ", " + z + ")",
          g.ternary(kind, x, y, z), model.ternary(kind, x, y, z));
    }
  }

  private void useSomething() {
    int draw = random.nextInt(100);
    if (draw < 15) {
      int x = expression();
      int fuel = fuel();
      due.answer(run + "begin(" + x + ", " + fuel + ")", g.begin(x, fuel), model.begin(x, fuel));
    } else if (draw < 45) {
      due.answer(run + "next()", g.next(), model.next());
    } else if (draw < 50) {
      int n = random.nextInt(4) == 0 ? small() : random.nextInt(12);
      due.answer(run + "skip(" + n + ")", g.skip(n), model.skip(n));
    } else if (draw < 57) {
      int n = variableNumber();
      int v = small();
      due.answer(run + "set(" + n + ", " + v + ")", g.set(n, v), model.set(n, v));
    } else {
      look(draw);
    }
  }

  private int fuel() {
    int draw = random.nextInt(20);
    if (draw == 0) {
      return random.nextBoolean() ? 2000 : 2001;
    }
    return draw == 1 ? small() : random.nextInt(draw < 8 ? 20 : 300);
  }

  private void look(int draw) {
    if (draw < 65) {
      due.answer(run + "value()", g.value(), model.value());
    } else if (draw < 72) {
      due.answer(run + "cost()", g.cost(), model.cost());
    } else if (draw < 78) {
      due.answer(run + "writes()", g.writes(), model.writes());
    } else if (draw < 84) {
      int i = random.nextInt(3) == 0 ? small() : random.nextInt(1 + model.writes());
      due.answer(run + "written(" + i + ")", g.written(i), model.written(i));
    } else if (draw < 92) {
      int n = variableNumber();
      due.answer(run + "variable(" + n + ")", g.variable(n), model.variable(n));
    } else if (draw < 97) {
      int x = random.nextInt(2) == 0 ? small() : random.nextInt(61);
      due.answer(run + "about(" + x + ")", g.about(x), model.about(x));
    } else {
      due.answer(run + "expressions()", g.expressions(), model.expressions());
    }
  }
}
