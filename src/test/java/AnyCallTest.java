import java.util.ArrayList;
import java.util.List;
import java.util.function.Supplier;
import java.util.function.ToLongFunction;

/**
 * No call ever throws or fails to end, for any arguments in any state: what is thrown ends this test
 * with an error. Every answer is also held against what such a call can answer at all.
 */
public final class AnyCallTest {
  private static final int MIN = Integer.MIN_VALUE;
  private static final int MAX = Integer.MAX_VALUE;
  private static final int[] NUMBERS = {MIN, MIN + 1, -2, -1, 0, 1, 2, 3, 4, 5, 7, 8, 11, 12, 31, 32, 33, 59, 60, 61,
      100, 101, 2000, 2001, MAX - 1, MAX};
  private static final Due due = new Due();

  public static void main(String[] args) {
    List<Supplier<GoalSearch>> states = states();
    for (int i = 0; i < states.size(); i++) {
      Supplier<GoalSearch> state = states.get(i);
      for (int a : NUMBERS) {
        callsOfOne("state " + i, state, a);
        for (int b : NUMBERS) {
          callsOfTwo("state " + i, state, a, b);
        }
      }
      callsOfMore("state " + i, state);
    }
    dearestRuns();
    due.end();
  }

  private static List<Supplier<GoalSearch>> states() {
    List<Supplier<GoalSearch>> all = new ArrayList<>();
    all.add(GoalSearch::new);
    all.add(Scenes::made);
    all.add(Scenes::begun);
    all.add(Scenes::midway);
    all.add(Scenes::deep);
    all.add(Scenes::full);
    for (int end : Scenes.ENDS) {
      all.add(() -> Scenes.ended(end));
    }
    return all;
  }

  private static void call(String what, Supplier<GoalSearch> state, ToLongFunction<GoalSearch> call, long low,
      long high) {
    GoalSearch g = state.get();
    long got = call.applyAsLong(g);
    due.answer(what + ": " + got + " is one of its answers", got >= low && got <= high ? 1 : 0, 1);
    int next = g.next();
    due.answer(what + ": then next " + next, next >= -6 && next <= 1 && next != -2 ? 1 : 0, 1);
  }

  private static void callsOfOne(String what, Supplier<GoalSearch> state, int a) {
    String with = "(" + a + ") in " + what;
    call("about" + with, state, g -> g.about(a), -2, 44);
    call("variable" + with, state, g -> g.variable(a), MIN, MAX);
    call("skip" + with, state, g -> g.skip(a), 0, 100);
    call("written" + with, state, g -> g.written(a), MIN, 4294967296L);
  }

  private static void callsOfTwo(String what, Supplier<GoalSearch> state, int a, int b) {
    String with = "(" + a + ", " + b + ") in " + what;
    call("leaf" + with, state, g -> g.leaf(a, b), -4, 59);
    call("set" + with, state, g -> g.set(a, b), MIN, MAX);
    call("begin" + with, state, g -> g.begin(a, b), -3, 0);
  }

  /** Every kind that there is and those beside them, over every three numbers. */
  private static void callsOfMore(String what, Supplier<GoalSearch> state) {
    for (int kind : new int[] {MIN, -1, 0, 1, 2, 3, 4, 11, 12, MAX}) {
      for (int a : NUMBERS) {
        for (int b : NUMBERS) {
          String with = "(" + kind + ", " + a + ", " + b + ") in " + what;
          call("unary" + with, state, g -> g.unary(kind, a, b), -5, 59);
          call("binary" + with, state, g -> g.binary(kind, a, b), -5, 59);
          call("ternary, first" + with, state, g -> g.ternary(kind, 7, a, b), -5, 59);
          call("ternary, last" + with, state, g -> g.ternary(kind, a, b, 6), -5, 59);
        }
      }
    }
  }

  /** All 512 calls on what has most to do, each begun with all the fuel when it has ended. */
  private static void dearestRuns() {
    for (int kind = 0; kind <= 11; kind++) {
      for (int below = 0; below <= 11; below++) {
        asLongAsCanBe("binary " + kind + " over " + below, widest(kind, below));
      }
    }
    asLongAsCanBe("ternaries", ranges());
  }

  /** 59 expressions of two kinds of pairs, in layers, of which an AGAIN makes 60. */
  private static Maker widest(int kind, int below) {
    Maker m = new Maker();
    int[] layer = new int[30];
    for (int i = 0; i < layer.length; i++) {
      layer[i] = i % 3 == 0 ? m.var(i % 8) : i % 3 == 1 ? m.num(i - 15) : m.num(1);
    }
    int length = layer.length;
    for (int depth = 0; length > 1; depth++) {
      for (int i = 0; i < length / 2; i++) {
        layer[i] = m.g.binary(depth % 2 == 0 ? below : kind, layer[2 * i], layer[2 * i + 1]);
      }
      if (length % 2 == 1) {
        layer[length / 2] = layer[length - 1];
      }
      length = (length + 1) / 2;
    }
    due.answer("the last of 60", m.again(layer[0]), 59);
    return m;
  }

  /** A TO in each place of a TO, so deep as it can be. */
  private static Maker ranges() {
    Maker m = new Maker();
    int e = m.num(3);
    for (int depth = 2; depth <= 11; depth++) {
      int one = m.num(1);
      e = depth % 3 == 0 ? m.to(e, m.num(4), one) : depth % 3 == 1 ? m.to(one, e, m.num(1)) : m.to(one, m.num(4), e);
    }
    due.answer("the depth of all", m.g.about(m.again(e)), 32 + 12);
    return m;
  }

  private static void asLongAsCanBe(String what, Maker m) {
    GoalSearch g = m.g;
    int whole = g.expressions() - 1;
    int begins = 0;
    for (int call = whole + 4; call + 2 <= 512; call += 3) {
      if (g.skip(100) < 100) {
        due.answer(what + ": begin", g.begin(whole, 2000), 0);
        begins++;
      }
      int cost = g.cost();
      due.answer(what + ": cost " + cost, cost >= 0 && cost <= 2000 ? 1 : 0, 1);
    }
    due.answer(what + ": was begun", begins > 0 ? 1 : 0, 1);
  }
}
