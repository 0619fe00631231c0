import java.util.ArrayList;
import java.util.List;
import java.util.function.Consumer;
import java.util.function.IntConsumer;
import java.util.function.IntSupplier;
import java.util.function.ToIntFunction;

/**
 * "Starting it again forgets how far it was": each kind in each place that a part can have, where it
 * is started twice or more, on objects on which it was left before at every point that it can reach.
 */
public final class StartedAnewTest {
  private static final int MAX = Integer.MAX_VALUE;
  private static final int[] OUTER = {4, 3};
  private static final Due due = new Due();

  /** What a kind gives by itself: its results, the cost when each of them comes, and of all till it fails. */
  private record Course(String name, ToIntFunction<Maker> part, int[] results, int[] costs, int whole) {}

  private interface Around {
    int make(Maker m, IntSupplier part);
  }

  private record Place(String name, Around around, Consumer<Plan> plan) {}

  private record Result(int value, int cost, int seven) {}

  /** What is due of a course in a place. */
  private static final class Plan {
    final Course course;
    final List<Result> results = new ArrayList<>();
    int cost = 0;
    int seven = 0;
    int end = 0;

    Plan(Course course) {
      this.course = course;
    }

    int length() {
      return course.results.length;
    }

    void pay(int n) {
      cost += n;
    }

    void give(int value) {
      results.add(new Result(value, cost, seven));
    }

    int payTo(int i) {
      cost += course.costs[i] - (i == 0 ? 0 : course.costs[i - 1]);
      return course.results[i];
    }

    void payRest() {
      cost += course.whole - (length() == 0 ? 0 : course.costs[length() - 1]);
    }

    void all() {
      for (int i = 0; i < length(); i++) {
        give(payTo(i));
      }
      payRest();
    }

    void upTo(int n) {
      for (int i = 0; i < n && i < length(); i++) {
        give(payTo(i));
      }
      if (n > length()) {
        payRest();
      }
    }

    /** The part of an ASSIGN to variable 7 is tried. */
    void tried() {
      if (length() == 0) {
        payRest();
      } else {
        seven = payTo(0);
      }
    }

    /** What never ends by itself: so many turns of it, and then there is no fuel for more. */
    void turns(int n, Runnable turn) {
      for (int i = 0; i < n; i++) {
        turn.run();
      }
      end = -5;
    }

    /** What follows in the place of the second part of an AND whose first gives two results. */
    void twice(Runnable inner) {
      for (int i = 0; i < 2; i++) {
        pay(1);
        inner.run();
      }
    }

    void each(IntConsumer onResult) {
      for (int i = 0; i < length(); i++) {
        onResult.accept(payTo(i));
      }
      payRest();
    }
  }

  public static void main(String[] args) {
    for (Course course : courses()) {
      for (Place place : places()) {
        // One that goes wrong tells enough: the others would print many thousand lines.
        if (due.isClean()) {
          look(course, place);
        }
      }
    }
    due.end();
  }

  private static void look(Course course, Place place) {
    Plan plan = new Plan(course);
    place.plan.accept(plan);
    String what = course.name + " " + place.name;
    leftForFuel(what, course, place, plan);
    leftAfterResults(what, course, place, plan);
    leftBeforeItWasAPart(what, course, place, plan);
  }

  private static List<Course> courses() {
    List<Course> all = new ArrayList<>();
    all.add(course("number", m -> m.num(4), 1, 4, 1));
    all.add(course("variable", m -> m.var(0), 1, 4, 1));
    all.add(course("assign", m -> m.assign(1, m.either(m.num(4), m.num(5))), 2, 4, 1, 5, 2));
    all.add(course("write", m -> m.write(m.either(m.num(4), m.num(5))), 2, 4, 1, 5, 2));
    all.add(course("not", m -> m.not(m.none()), 2, 0, 2));
    all.add(course("not of something", m -> m.not(m.either(m.num(1), m.num(2))), 1));
    all.add(course("again", m -> m.then(m.assign(1, m.num(0)), m.again(m.less(counted(m), m.num(3)))),
        10, 3, 4, 3, 7));
    all.add(course("either", m -> m.either(m.num(4), m.num(5)), 2, 4, 1, 5, 2));
    all.add(course("and", m -> pair(m, 1, 1, 2, 4, 5), 6, 4, 2, 5, 3, 4, 5, 5, 6));
    all.add(course("plus", m -> pair(m, 2, 1, 2, 10, 20), 6, 11, 2, 21, 3, 12, 5, 22, 6));
    all.add(course("minus", m -> pair(m, 3, 1, 2, 10, 20), 6, -9, 2, -19, 3, -8, 5, -18, 6));
    all.add(course("times", m -> pair(m, 4, 1, 2, 10, 20), 6, 10, 2, 20, 3, 20, 5, 40, 6));
    all.add(course("less", m -> pair(m, 5, 1, 2, 2, 3), 6, 2, 2, 3, 3, 3, 6));
    all.add(course("equal", m -> pair(m, 6, 1, 2, 2, 1), 6, 1, 3, 2, 5));
    all.add(course("other", m -> pair(m, 7, 1, 2, 1, 3), 6, 3, 3, 1, 5, 3, 6));
    all.add(course("limit", m -> pair(m, 8, 4, 5, 1, 2), 5, 4, 2, 4, 4, 5, 5));
    all.add(course("every", m -> pair(m, 9, 4, 5, 1, 2), 4));
    all.add(course("while", m -> m.then(m.assign(1, m.num(0)), m.whilst(m.less(m.var(1), m.num(2)), counted(m))),
        11));
    all.add(course("then", m -> pair(m, 11, 1, 2, 4, 5), 3, 4, 2, 5, 3));
    all.add(course("to", m -> m.to(m.either(m.num(1), m.num(2)), m.num(2), m.num(1)), 9, 1, 4, 2, 5, 2, 9));
    all.add(course("if so", m -> m.when(m.either(m.num(1), m.num(2)), m.either(m.num(4), m.num(5)), m.num(9)),
        3, 4, 2, 5, 3));
    all.add(course("if not", m -> m.when(m.none(), m.num(9), m.either(m.num(4), m.num(5))), 4, 4, 3, 5, 4));
    return all;
  }

  /** Results and their costs in turn. */
  private static Course course(String name, ToIntFunction<Maker> part, int whole, int... given) {
    int[] results = new int[given.length / 2];
    int[] costs = new int[given.length / 2];
    for (int i = 0; i < results.length; i++) {
      results[i] = given[2 * i];
      costs[i] = given[2 * i + 1];
    }
    return new Course(name, part, results, costs, whole);
  }

  private static int pair(Maker m, int kind, int a, int b, int c, int d) {
    return m.g.binary(kind, m.either(m.num(a), m.num(b)), m.either(m.num(c), m.num(d)));
  }

  private static int counted(Maker m) {
    return m.assign(1, m.plus(m.var(1), m.num(1)));
  }

  private static List<Place> places() {
    List<Place> all = new ArrayList<>();
    all.add(new Place("alone", (m, k) -> k.getAsInt(), Plan::all));
    addLoops(all);
    for (int kind = 1; kind <= 7; kind++) {
      addPair(all, kind);
    }
    addTried(all);
    addOnes(all);
    addTernaries(all);
    return all;
  }

  private static void addLoops(List<Place> all) {
    all.add(new Place("in AGAIN", (m, k) -> m.again(k.getAsInt()), p -> {
      if (p.length() == 0) {
        p.payRest();
      } else {
        p.turns(3, p::all);
      }
    }));
    all.add(new Place("first in LIMIT",
        (m, k) -> m.limit(k.getAsInt(), m.either(m.either(m.num(1), m.num(2)), m.either(m.num(9), m.num(1)))),
        p -> {
          for (int n : new int[] {1, 2, 9, 1}) {
            p.pay(1);
            p.upTo(n);
          }
        }));
    all.add(new Place("last in EVERY",
        (m, k) -> m.every(m.either(m.num(1), m.num(2)), m.assign(7, k.getAsInt())),
        p -> p.twice(p::tried)));
    all.add(new Place("first in WHILE", (m, k) -> m.whilst(m.assign(7, k.getAsInt()), m.num(1)), p -> {
      if (p.length() == 0) {
        p.payRest();
        return;
      }
      p.turns(3, () -> {
        p.tried();
        p.pay(1);
      });
    }));
    all.add(new Place("last in WHILE", (m, k) -> m.whilst(m.num(1), m.assign(7, k.getAsInt())),
        p -> p.turns(3, () -> {
          p.pay(1);
          p.tried();
        })));
  }

  /** As the second part of a pair, and as the first part of one that is started twice itself. */
  private static void addPair(List<Place> all, int kind) {
    all.add(new Place("last in binary " + kind,
        (m, k) -> m.g.binary(kind, m.either(m.num(OUTER[0]), m.num(OUTER[1])), k.getAsInt()),
        p -> {
          for (int r : OUTER) {
            p.pay(1);
            p.each(s -> give(p, kind, r, s));
          }
        }));
    inner(all, "first in binary " + kind, (m, k) -> m.g.binary(kind, k.getAsInt(), m.num(2)),
        p -> p.each(r -> {
          p.pay(1);
          give(p, kind, r, 2);
        }));
  }

  private static void give(Plan p, int kind, int r, int s) {
    int[] values = {s, r + s, r - s, r * s, s, s, s};
    boolean[] holds = {true, true, true, true, r < s, r == s, r != s};
    if (holds[kind - 1]) {
      p.give(values[kind - 1]);
    }
  }

  /** In the second part of an AND whose first gives two results. */
  private static void inner(List<Place> all, String name, Around around, Consumer<Plan> plan) {
    all.add(new Place(name + " in AND", (m, k) -> m.and(m.either(m.num(1), m.num(2)), around.make(m, k)),
        p -> p.twice(() -> plan.accept(p))));
  }

  private static void addTried(List<Place> all) {
    inner(all, "in NOT", (m, k) -> m.not(m.assign(7, k.getAsInt())), p -> {
      p.tried();
      if (p.length() == 0) {
        p.give(0);
      }
    });
    inner(all, "first in THEN", (m, k) -> m.then(m.assign(7, k.getAsInt()), m.num(5)), p -> {
      p.tried();
      p.pay(1);
      p.give(5);
    });
    inner(all, "first in IF", (m, k) -> m.when(m.assign(7, k.getAsInt()), m.num(5), m.num(6)), p -> {
      p.tried();
      p.pay(1);
      p.give(p.length() == 0 ? 6 : 5);
    });
  }

  private static void addOnes(List<Place> all) {
    inner(all, "in ASSIGN", (m, k) -> m.assign(7, k.getAsInt()), p -> p.each(r -> {
      p.seven = r;
      p.give(r);
    }));
    inner(all, "in WRITE", (m, k) -> m.write(k.getAsInt()), Plan::all);
    inner(all, "twice in EITHER", (m, k) -> m.either(k.getAsInt(), k.getAsInt()), p -> {
      p.all();
      p.all();
    });
    inner(all, "last in LIMIT", (m, k) -> m.limit(m.num(5), k.getAsInt()), p -> p.each(n -> {
      if (n > 0) {
        p.pay(1);
        p.give(5);
      }
    }));
    inner(all, "first in EVERY", (m, k) -> m.every(m.assign(7, k.getAsInt()), m.num(5)), p -> p.each(r -> {
      p.seven = r;
      p.pay(1);
    }));
    inner(all, "last in THEN", (m, k) -> m.then(m.num(5), k.getAsInt()), p -> {
      p.pay(1);
      p.all();
    });
  }

  /** The ranges have one value each: the step leads beyond the end at once. */
  private static void addTernaries(List<Place> all) {
    inner(all, "first in TO", (m, k) -> m.to(k.getAsInt(), m.num(100), m.num(1000)), p -> p.each(r -> {
      p.pay(3);
      p.give(r);
    }));
    inner(all, "second in TO", (m, k) -> m.to(m.num(-50), m.assign(7, k.getAsInt()), m.num(MAX)), p -> {
      p.pay(1);
      p.each(r -> {
        p.seven = r;
        p.pay(2);
        p.give(-50);
      });
    });
    inner(all, "third in TO", (m, k) -> m.to(m.num(6), m.num(6), m.assign(7, m.plus(k.getAsInt(), m.num(100)))),
        p -> {
          p.pay(2);
          p.each(r -> {
            p.pay(2);
            p.seven = r + 100;
            p.give(6);
          });
        });
    inner(all, "second in IF", (m, k) -> m.when(m.num(1), k.getAsInt(), m.num(6)), p -> {
      p.pay(1);
      p.all();
    });
    inner(all, "third in IF", (m, k) -> m.when(m.none(), m.num(6), k.getAsInt()), p -> {
      p.pay(2);
      p.all();
    });
  }

  private static Maker maker() {
    Maker m = new Maker();
    m.g.set(0, 4);
    return m;
  }

  private static void run(String what, Maker m, int e, int fuel, Plan plan) {
    due.answer(what + ": begin", m.g.begin(e, fuel), 0);
    for (Result result : plan.results) {
      if (result.cost <= fuel) {
        due.answer(what + ": next", m.g.next(), 1);
        due.answer(what + ": value", m.g.value(), result.value);
        due.answer(what + ": cost", m.g.cost(), result.cost);
        due.answer(what + ": variable 7", m.g.variable(7), result.seven);
      }
    }
    due.answer(what + ": end", m.g.next(), fuel < plan.cost ? -5 : plan.end);
    due.answer(what + ": cost at the end", m.g.cost(), Math.min(fuel, plan.cost));
    if (fuel == plan.cost) {
      due.answer(what + ": variable 7 at the end", m.g.variable(7), plan.seven);
    }
  }

  /** The fuel ends at each place where something costs; what is begun then starts from its beginning. */
  private static void leftForFuel(String what, Course course, Place place, Plan plan) {
    for (int fuel = 0; fuel <= plan.cost; fuel++) {
      Maker m = maker();
      int e = place.around.make(m, () -> course.part.applyAsInt(m));
      run(what + ", fuel " + fuel, m, e, fuel, plan);
      run(what + ", after fuel " + fuel, m, e, plan.cost, plan);
    }
  }

  private static void leftAfterResults(String what, Course course, Place place, Plan plan) {
    for (int n = 0; n <= plan.results.size() + 1; n++) {
      Maker m = maker();
      int e = place.around.make(m, () -> course.part.applyAsInt(m));
      m.g.begin(e, plan.cost);
      m.g.skip(n);
      run(what + ", after " + n + " results", m, e, plan.cost, plan);
    }
  }

  private static void leftBeforeItWasAPart(String what, Course course, Place place, Plan plan) {
    for (int n = 0; n <= course.results.length + 1; n++) {
      int taken = n;
      Maker m = maker();
      int e = place.around.make(m, () -> {
        int part = course.part.applyAsInt(m);
        m.g.begin(part, course.whole);
        m.g.skip(taken);
        return part;
      });
      run(what + ", part of what was left after " + n + " results", m, e, plan.cost, plan);
    }
  }
}
