import java.lang.reflect.Constructor;
import java.lang.reflect.Field;
import java.lang.reflect.Method;
import java.lang.reflect.Modifier;
import java.util.Set;
import java.util.TreeSet;

/** The public face: just the members of the document, with their throws clauses, and private ones beside. */
public final class FaceTest {
  private static final String IN = "IndexOutOfBoundsException";
  private static final String AR = "IllegalArgumentException";
  private static final String ST = "IllegalStateException";

  private static final String[] FACE = {
    "int box(int, int) " + AR + " " + ST,
    "int setTrust(int, int) " + IN + " " + AR,
    "int pass(int) " + AR + " " + ST,
    "int scan(int, int, int) " + IN + " " + AR + " " + ST,
    "int lay(int, int) " + IN + " " + ST,
    "int find(int, int) " + IN + " " + ST,
    "int setDoor(int, int) " + IN + " " + AR + " " + ST,
    "int keep(int, int) " + IN + " " + ST,
    "int open(int, int) " + IN + " " + AR + " " + ST,
    "boolean jam(int, boolean) " + IN,
    "int claim(int) " + IN + " " + ST,
    "int time()",
    "int boxes()",
    "int scans(int) " + IN,
    "int story(int) " + IN,
    "int storyOfAll(int) " + IN,
    "int placeOf(int) " + IN,
    "int lies(int) " + IN,
    "boolean hasFee(int) " + IN,
    "boolean isInsured(int) " + IN,
    "int fees(int) " + IN,
    "int insurers()",
    "int entries()",
    "int fine(int) " + IN,
    "boolean isJammed(int) " + IN,
    "int keptFor(int) " + IN,
  };

  public static void main(String[] args) {
    Check.due("NONE", Whichbox.NONE, -1);
    Check.due("RECEIVER", Whichbox.RECEIVER, 30);
    Check.same("the class", Modifier.toString(Whichbox.class.getModifiers()), "public final");
    Check.same("the methods", publicMethods().toString(), faceDue().toString());
    Check.same("the fields", publicFields().toString(),
        "[public static final int NONE, public static final int RECEIVER]");
    Constructor<?>[] made = Whichbox.class.getDeclaredConstructors();
    Check.due("constructors", made.length, 1);
    Check.due("parameters of the constructor", made[0].getParameterCount(), 0);
    Check.due("the constructor is public", Modifier.isPublic(made[0].getModifiers()), true);
    noMethodInsideIsNamedAsOneOfTheFace();
    Check.end();
  }

  private static Set<String> faceDue() {
    Set<String> due = new TreeSet<>();
    for (String each : FACE) {
      due.add("public " + each);
    }
    return due;
  }

  private static Set<String> publicMethods() {
    Set<String> found = new TreeSet<>();
    for (Method each : Whichbox.class.getDeclaredMethods()) {
      if (!Modifier.isPrivate(each.getModifiers()) && !each.isSynthetic()) {
        found.add(told(each));
      }
    }
    return found;
  }

  private static String told(Method method) {
    StringBuilder line = new StringBuilder();
    line.append(Modifier.toString(method.getModifiers())).append(' ');
    line.append(method.getReturnType().getSimpleName()).append(' ').append(method.getName()).append('(');
    String between = "";
    for (Class<?> each : method.getParameterTypes()) {
      line.append(between).append(each.getSimpleName());
      between = ", ";
    }
    line.append(')');
    for (Class<?> each : method.getExceptionTypes()) {
      line.append(' ').append(each.getSimpleName());
    }
    return line.toString();
  }

  private static Set<String> publicFields() {
    Set<String> found = new TreeSet<>();
    for (Field each : Whichbox.class.getDeclaredFields()) {
      if (!Modifier.isPrivate(each.getModifiers())) {
        found.add(Modifier.toString(each.getModifiers()) + " " + each.getType().getSimpleName() + " " + each.getName());
      }
    }
    return found;
  }

  private static void noMethodInsideIsNamedAsOneOfTheFace() {
    Set<String> names = new TreeSet<>();
    for (String each : FACE) {
      names.add(each.substring(each.indexOf(' ') + 1, each.indexOf('(')));
    }
    noneIsNamed(names, Whichbox.class);
    for (Class<?> each : Whichbox.class.getDeclaredClasses()) {
      noneIsNamed(names, each);
    }
  }

  private static void noneIsNamed(Set<String> names, Class<?> looked) {
    for (Method each : looked.getDeclaredMethods()) {
      boolean isOfFace = looked == Whichbox.class && Modifier.isPublic(each.getModifiers());
      if (!isOfFace && !each.isSynthetic()) {
        Check.due("a method inside named " + each.getName(), names.contains(each.getName()), false);
      }
    }
  }
}
