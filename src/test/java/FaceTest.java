import java.lang.reflect.Constructor;
import java.lang.reflect.Field;
import java.lang.reflect.Method;
import java.lang.reflect.Modifier;
import java.util.Arrays;
import java.util.Set;
import java.util.TreeSet;

/** The public face is the document's, with nothing else that another class could see. */
public final class FaceTest {
  private static final String[] FACE = {
    "int come(int) IllegalArgumentException IllegalStateException",
    "int setPattern(int,int,int) IndexOutOfBoundsException IllegalArgumentException",
    "int pass(int,int,int) IndexOutOfBoundsException",
    "int written(int,int,int) IndexOutOfBoundsException",
    "int make(int) IllegalArgumentException IllegalStateException",
    "int give(int,int,int) IndexOutOfBoundsException IllegalStateException",
    "int thing(int,int) IndexOutOfBoundsException",
    "int juggler(int,int) IndexOutOfBoundsException",
    "boolean lasts(int) IndexOutOfBoundsException",
    "int asks(int) IndexOutOfBoundsException",
    "int shortest(int) IndexOutOfBoundsException",
    "int go(int) IllegalArgumentException",
    "int count(int) IndexOutOfBoundsException",
    "int falls()",
    "int foresee(int,int) IllegalArgumentException IndexOutOfBoundsException",
    "int advise(int,int) IndexOutOfBoundsException IllegalArgumentException",
    "double mean()",
    "long digest()",
  };

  private static String told(Method method) {
    StringBuilder text = new StringBuilder();
    text.append(method.getReturnType().getSimpleName()).append(' ');
    text.append(method.getName()).append('(');
    for (int i = 0; i < method.getParameterCount(); i++) {
      text.append(i == 0 ? "" : ",").append(method.getParameterTypes()[i].getSimpleName());
    }
    text.append(')');
    for (Class<?> thrown : method.getExceptionTypes()) {
      text.append(' ').append(thrown.getSimpleName());
    }
    return text.toString();
  }

  private static boolean isPublicAlone(int modifiers) {
    return modifiers == Modifier.PUBLIC;
  }

  private static void methodsAreTheFace() {
    Set<String> due = new TreeSet<>(Arrays.asList(FACE));
    Set<String> got = new TreeSet<>();
    Set<String> names = new TreeSet<>();
    for (Method method : HammerEggs.class.getDeclaredMethods()) {
      if (!Modifier.isPrivate(method.getModifiers())) {
        Check.holds(method + " is public alone", isPublicAlone(method.getModifiers()));
        got.add(told(method));
        names.add(method.getName());
      }
    }
    Check.due("the public methods", got.toString(), due.toString());
    for (Class<?> inside : HammerEggs.class.getDeclaredClasses()) {
      Check.holds(inside + " is static", Modifier.isStatic(inside.getModifiers()));
      Check.holds(inside + " is not public", !Modifier.isPublic(inside.getModifiers()));
    }
    for (Method method : HammerEggs.class.getDeclaredMethods()) {
      if (Modifier.isPrivate(method.getModifiers())) {
        Check.holds(method + " bears no public name", !names.contains(method.getName()));
      }
    }
  }

  private static void fieldsArePrivate() {
    for (Field field : HammerEggs.class.getDeclaredFields()) {
      Check.holds(field + " is private", Modifier.isPrivate(field.getModifiers()));
      Check.holds(field + " is final", Modifier.isFinal(field.getModifiers()));
    }
  }

  public static void main(String[] args) {
    int modifiers = HammerEggs.class.getModifiers();
    Check.holds("public final class", modifiers == (Modifier.PUBLIC | Modifier.FINAL));
    Constructor<?>[] constructors = HammerEggs.class.getDeclaredConstructors();
    Check.due("constructors", constructors.length, 1);
    Check.holds("public HammerEggs()", constructors[0].getParameterCount() == 0
        && isPublicAlone(constructors[0].getModifiers()));
    methodsAreTheFace();
    fieldsArePrivate();
    Check.end();
  }
}
