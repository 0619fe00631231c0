import java.lang.reflect.Constructor;
import java.lang.reflect.Field;
import java.lang.reflect.Method;
import java.lang.reflect.Modifier;
import java.util.TreeSet;

/** The public face: the document's members and no other that can be seen from outside. */
public final class FaceTest {
  private static final String[] FACE = {
    "int leaf(int,int)", "int unary(int,int,int)", "int binary(int,int,int)",
    "int ternary(int,int,int,int)", "int expressions()", "int about(int)", "int set(int,int)",
    "int variable(int)", "int begin(int,int)", "int next()", "int skip(int)", "int value()",
    "int writes()", "long written(int)", "int cost()",
  };

  public static void main(String[] args) {
    Due due = new Due();
    TreeSet<String> missing = new TreeSet<>(java.util.Arrays.asList(FACE));
    TreeSet<String> surplus = new TreeSet<>();
    for (Method m : GoalSearch.class.getDeclaredMethods()) {
      boolean plain = m.getModifiers() == Modifier.PUBLIC;
      if (!(plain && missing.remove(signature(m))) && !Modifier.isPrivate(m.getModifiers())) {
        surplus.add(signature(m));
      }
    }
    for (Field f : GoalSearch.class.getDeclaredFields()) {
      if (!Modifier.isPrivate(f.getModifiers())) {
        surplus.add(f.getName());
      }
    }
    due.answer("methods missing " + missing, missing.size(), 0);
    due.answer("members too many " + surplus, surplus.size(), 0);
    due.answer("class is public and final", GoalSearch.class.getModifiers(), Modifier.PUBLIC | Modifier.FINAL);
    Constructor<?>[] made = GoalSearch.class.getDeclaredConstructors();
    due.answer("constructors", made.length, 1);
    due.answer("constructor is public", made[0].getModifiers(), Modifier.PUBLIC);
    due.answer("constructor's parameters", made[0].getParameterCount(), 0);
    due.end();
  }

  private static String signature(Method m) {
    StringBuilder text = new StringBuilder(m.getReturnType().getName() + " " + m.getName() + "(");
    for (int i = 0; i < m.getParameterCount(); i++) {
      text.append(i == 0 ? "" : ",").append(m.getParameterTypes()[i].getName());
    }
    return text.append(")").toString();
  }
}
