import java.util.function.Supplier;
import java.util.function.ToLongFunction;

/** Counts and prints the answers that are not the ones that are due. */
final class Due {
  private static final long LONGEST_MILLIS = 300000;

  private int wrong = 0;

  /** A call that does not end must make its test fail, not wait for ever. */
  Due() {
    Thread watch = new Thread(Due::stopAfterTheLongest);
    watch.setDaemon(true);
    watch.start();
  }

  private static void stopAfterTheLongest() {
    try {
      Thread.sleep(LONGEST_MILLIS);
    } catch (InterruptedException e) {
      return;
    }
    System.out.println("some call does not end");
    Runtime.getRuntime().halt(1);
  }

  void answer(String call, long got, long want) {
    if (got != want) {
      wrong++;
      System.out.println(call + " answered " + got + ", due is " + want);
    }
  }

  private void same(String what, String got, String want) {
    if (!got.equals(want)) {
      wrong++;
      System.out.println(what + "\n  is     " + got + "\n  due is " + want);
    }
  }

  boolean isClean() {
    return wrong == 0;
  }

  /** Begins e, asks for all its results, and looks at how it ends and what that cost. */
  void run(String what, GoalSearch g, int e, int fuel, int end, int cost, int... results) {
    answer(what + ": begin", g.begin(e, fuel), 0);
    for (int i = 0; i < results.length; i++) {
      answer(what + ": next " + i, g.next(), 1);
      answer(what + ": value " + i, g.value(), results[i]);
    }
    answer(what + ": last next", g.next(), end);
    answer(what + ": next after the end", g.next(), end);
    answer(what + ": cost", g.cost(), cost);
    answer(what + ": value at the end", g.value(), results.length == 0 ? 0 : results[results.length - 1]);
  }

  void written(String what, GoalSearch g, int... values) {
    answer(what + ": writes", g.writes(), values.length);
    for (int i = 0; i < values.length; i++) {
      answer(what + ": written " + i, g.written(i), values[i]);
    }
    answer(what + ": written after the last", g.written(values.length), 4294967296L);
  }

  /**
   * Of two objects in the same state one gets a call that must change nothing: they stay alike, also
   * when they are asked on, so that a change that cannot be seen at once is found, too.
   */
  void noChange(String what, Supplier<GoalSearch> scene, ToLongFunction<GoalSearch> call, long want) {
    GoalSearch called = scene.get();
    GoalSearch plain = scene.get();
    answer(what, call.applyAsLong(called), want);
    same(what + ": what is seen after it", Look.at(called), Look.at(plain));
    same(what + ": what comes after it", Look.askingOn(called), Look.askingOn(plain));
  }

  void end() {
    System.out.println(wrong == 0 ? "all answers are as due" : wrong + " answers are not as due");
    if (wrong != 0) {
      System.exit(1);
    }
  }
}
