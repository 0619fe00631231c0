/** What can be seen of an object, as a text, so that two objects can be compared. */
final class Look {
  private Look() {}

  /** The answers of the calls that change nothing: at most 60 + 32 + 15 of them. */
  static String at(GoalSearch g) {
    int made = g.expressions();
    int writes = g.writes();
    StringBuilder seen = new StringBuilder("expressions " + made + ", about");
    for (int x = -1; x <= made; x++) {
      seen.append(' ').append(g.about(x));
    }
    seen.append(", variables");
    for (int n = 0; n < 8; n++) {
      seen.append(' ').append(g.variable(n));
    }
    seen.append(", value ").append(g.value()).append(", cost ").append(g.cost());
    seen.append(", ").append(writes).append(" written");
    for (int i = -1; i <= writes; i++) {
      seen.append(' ').append(g.written(i));
    }
    return seen.toString();
  }

  /** What comes when it is asked for some results more, and what is seen then. */
  static String askingOn(GoalSearch g) {
    StringBuilder seen = new StringBuilder();
    for (int i = 0; i < 6; i++) {
      seen.append("next ").append(g.next()).append(" value ").append(g.value());
      seen.append(" cost ").append(g.cost()).append(", ");
    }
    return seen.append(at(g)).toString();
  }
}
