import java.util.ArrayList;
import java.util.Arrays;
import java.util.List;
import java.util.function.IntPredicate;

/**
 * The document once more, written in another way than the program: an expression hands each of its
 * results to a function that says whether it wants more. A call that asks for one more result runs
 * the whole from its beginning, with the variables set from outside at the same places as before.
 */
final class Model {
  private static final class Fault extends RuntimeException {
    private static final long serialVersionUID = 1;
    final int error;

    Fault(int error) {
      super(null, null, false, false);
      this.error = error;
    }
  }

  private record Made(String kind, int number, int[] parts, int depth) {}

  private static final String[] LEAVES = {"number", "variable"};
  private static final String[] UNARIES = {"assign", "write", "not", "again"};
  private static final String[] BINARIES = {"either", "and", "plus", "minus", "times", "less", "equal", "other",
      "limit", "every", "while", "then"};
  private static final String[] TERNARIES = {"to", "if"};

  private final List<Made> made = new ArrayList<>();
  private int[] variables = new int[8];

  private int begun = -1;
  private int fuel;
  private int[] variablesAtBegin;
  private final List<List<int[]>> setsAfterResult = new ArrayList<>();
  private int answer = -1;
  private int value;
  private int cost;
  private final List<Integer> written = new ArrayList<>();

  int make(String[] kinds, int kind, int number, int... parts) {
    if (kind < 0 || kind >= kinds.length) {
      return -1;
    }
    String name = kinds[kind];
    if ((name.equals("variable") || name.equals("assign")) && (number < 0 || number > 7)) {
      return -1;
    }
    if (Arrays.stream(parts).anyMatch(p -> p < 0 || p >= made.size())) {
      return -2;
    }
    if (!Arrays.stream(parts).allMatch(this::isFree) || Arrays.stream(parts).distinct().count() < parts.length) {
      return -3;
    }
    if (made.size() == 60) {
      return -4;
    }
    int depth = 1 + Arrays.stream(parts).map(p -> made.get(p).depth).max().orElse(0);
    if (depth > 12) {
      return -5;
    }
    made.add(new Made(name, number, parts, depth));
    return made.size() - 1;
  }

  int leaf(int kind, int v) { return make(LEAVES, kind, v); }
  int unary(int kind, int k, int x) { return make(UNARIES, kind, k, x); }
  int binary(int kind, int x, int y) { return make(BINARIES, kind, 0, x, y); }
  int ternary(int kind, int x, int y, int z) { return make(TERNARIES, kind, 0, x, y, z); }

  int expressions() { return made.size(); }

  private boolean isFree(int e) {
    return made.stream().noneMatch(m -> Arrays.stream(m.parts).anyMatch(p -> p == e));
  }

  int about(int x) {
    return x < 0 || x >= made.size() ? -2 : made.get(x).depth + (isFree(x) ? 32 : 0);
  }

  int set(int n, int v) {
    if (n < 0 || n > 7) {
      return 0;
    }
    if (begun >= 0) {
      setsAfterResult.get(setsAfterResult.size() - 1).add(new int[] {n, v});
    }
    int before = variables[n];
    variables[n] = v;
    return before;
  }

  int variable(int n) { return n < 0 || n > 7 ? 0 : variables[n]; }

  int begin(int x, int givenFuel) {
    if (x < 0 || x >= made.size()) {
      return -2;
    }
    if (!isFree(x)) {
      return -3;
    }
    if (givenFuel < 0 || givenFuel > 2000) {
      return -1;
    }
    begun = x;
    fuel = givenFuel;
    variablesAtBegin = variables.clone();
    setsAfterResult.clear();
    setsAfterResult.add(new ArrayList<>());
    answer = 1;
    value = 0;
    cost = 0;
    written.clear();
    return 0;
  }

  int next() {
    if (answer == 1) {
      answer = runToNextResult();
      setsAfterResult.add(new ArrayList<>());
    }
    return answer;
  }

  private int runToNextResult() {
    int[] still = {setsAfterResult.size()};
    variables = variablesAtBegin.clone();
    cost = 0;
    written.clear();
    setFromOutside(0);
    try {
      boolean toTheEnd = each(begun, v -> {
        value = v;
        still[0]--;
        if (still[0] == 0) {
          return false;
        }
        setFromOutside(setsAfterResult.size() - still[0]);
        return true;
      });
      return toTheEnd ? 0 : 1;
    } catch (Fault fault) {
      return fault.error;
    }
  }

  private void setFromOutside(int results) {
    for (int[] set : setsAfterResult.get(results)) {
      variables[set[0]] = set[1];
    }
  }

  int skip(int n) {
    int came = 0;
    for (int i = 0; n <= 100 && i < n; i++) {
      if (next() != 1) {
        break;
      }
      came++;
    }
    return came;
  }

  int value() { return value; }
  int writes() { return written.size(); }
  long written(int i) { return i < 0 || i >= written.size() ? 1L << 32 : written.get(i); }
  int cost() { return cost; }

  private void pay() {
    if (cost == fuel) {
      throw new Fault(-5);
    }
    cost++;
  }

  private void write(int v) {
    if (written.size() == 32) {
      throw new Fault(-6);
    }
    written.add(v);
  }

  private static int exact(long v) {
    if (v < Integer.MIN_VALUE || v > Integer.MAX_VALUE) {
      throw new Fault(-4);
    }
    return (int) v;
  }

  private boolean gives(int e) {
    return !each(e, v -> false);
  }

  /** Hands on each result of e as long as more is wanted; whether that lasted till e failed. */
  private boolean each(int e, IntPredicate more) {
    Made m = made.get(e);
    int x = m.parts.length > 0 ? m.parts[0] : -1;
    int y = m.parts.length > 1 ? m.parts[1] : -1;
    int z = m.parts.length > 2 ? m.parts[2] : -1;
    switch (m.kind) {
      case "number":
        pay();
        return more.test(m.number);
      case "variable":
        pay();
        return more.test(variables[m.number]);
      case "assign":
        return each(x, r -> {
          variables[m.number] = r;
          return more.test(r);
        });
      case "write":
        return each(x, r -> {
          write(r);
          return more.test(r);
        });
      case "not":
        return gives(x) || more.test(0);
      case "again":
        return eachAgain(x, more);
      case "either":
        return each(x, more) && each(y, more);
      case "and":
        return each(x, r -> each(y, more));
      case "plus":
        return each(x, r -> each(y, s -> more.test(exact((long) r + s))));
      case "minus":
        return each(x, r -> each(y, s -> more.test(exact((long) r - s))));
      case "times":
        return each(x, r -> each(y, s -> more.test(exact((long) r * s))));
      case "less":
        return each(x, r -> each(y, s -> r >= s || more.test(s)));
      case "equal":
        return each(x, r -> each(y, s -> r != s || more.test(s)));
      case "other":
        return each(x, r -> each(y, s -> r == s || more.test(s)));
      case "limit":
        return each(y, n -> n <= 0 || eachUpTo(n, x, more));
      case "every":
        return each(x, r -> {
          gives(y);
          return true;
        });
      case "while":
        while (gives(x)) {
          gives(y);
        }
        return true;
      case "then":
        gives(x);
        return each(y, more);
      case "to":
        return each(x, a -> each(y, b -> each(z, c -> eachFromTo(a, b, c, more))));
      default:
        return gives(x) ? each(y, more) : each(z, more);
    }
  }

  private boolean eachAgain(int x, IntPredicate more) {
    boolean[] gave = {true};
    while (gave[0]) {
      gave[0] = false;
      boolean failed = each(x, r -> {
        gave[0] = true;
        return more.test(r);
      });
      if (!failed) {
        return false;
      }
    }
    return true;
  }

  private boolean eachUpTo(int n, int x, IntPredicate more) {
    int[] still = {n};
    boolean[] wanted = {true};
    each(x, r -> {
      still[0]--;
      wanted[0] = more.test(r);
      return wanted[0] && still[0] > 0;
    });
    return wanted[0];
  }

  private boolean eachFromTo(long a, long b, long c, IntPredicate more) {
    if (c == 0) {
      throw new Fault(-3);
    }
    for (long v = a; c > 0 ? v <= b : v >= b; v += c) {
      pay();
      if (!more.test((int) v)) {
        return false;
      }
    }
    return true;
  }
}
