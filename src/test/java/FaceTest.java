import java.lang.reflect.Constructor;
import java.lang.reflect.Field;
import java.lang.reflect.Method;
import java.lang.reflect.Modifier;
import java.util.ArrayList;
import java.util.List;
import java.util.TreeSet;

/** The public face is the document's, and nothing else of the class can be seen from outside. */
public final class FaceTest {
  private static final String[] FACE = {
    "int addModel(int, int, int) IllegalArgumentException IllegalStateException",
    "int removeModel() IllegalStateException",
    "int setRate(int, int) IndexOutOfBoundsException IllegalArgumentException",
    "int modelCount()",
    "int feed(long, int) IllegalArgumentException IllegalStateException",
    "int fill(int, int) IllegalArgumentException IllegalStateException",
    "int cut(int) IllegalArgumentException",
    "int size()",
    "int byteAt(int) IndexOutOfBoundsException",
    "int reset()",
    "int observe(boolean)",
    "int mixed()",
    "int prediction(int) IndexOutOfBoundsException",
    "int index(int) IndexOutOfBoundsException",
    "int counter(int, int) IndexOutOfBoundsException",
    "int weight(int, int) IndexOutOfBoundsException",
    "int leader()",
    "int collisions(int) IndexOutOfBoundsException",
    "int history(int) IndexOutOfBoundsException",
    "int node()",
    "int observed()",
    "long error()",
    "double meanError()",
    "int encode()",
    "int codeSize()",
    "int code(int) IndexOutOfBoundsException",
    "int setCode(int, int) IndexOutOfBoundsException IllegalArgumentException",
    "int cutCode(int) IllegalArgumentException",
    "int decode(int) IllegalArgumentException",
    "int outputSize()",
    "int output(int) IndexOutOfBoundsException",
    "double ratio()",
    "long digest()",
  };

  public static void main(String[] args) {
    Check check = new Check();
    new BitMixer();
    int flags = BitMixer.class.getModifiers();
    check.due("the class is public and final", true, () -> Modifier.isPublic(flags) && Modifier.isFinal(flags));
    check.due("the class has no package", "", () -> BitMixer.class.getPackageName());

    TreeSet<String> shown = new TreeSet<>();
    TreeSet<String> names = new TreeSet<>();
    for (Method method : BitMixer.class.getDeclaredMethods()) {
      if (!Modifier.isPrivate(method.getModifiers())) {
        shown.add(written(method));
        names.add(method.getName());
        check.due(method + " is public alone", Modifier.PUBLIC, method::getModifiers);
      }
    }
    check.same("the methods that can be seen", new TreeSet<>(List.of(FACE)).toString(), shown.toString());
    lookAtHidden(check, BitMixer.class, names);

    Constructor<?>[] constructors = BitMixer.class.getDeclaredConstructors();
    check.due("constructors", 1, () -> constructors.length);
    check.due("the constructor's parameters", 0, () -> constructors[0].getParameterCount());
    check.due("the constructor is public", true, () -> Modifier.isPublic(constructors[0].getModifiers()));
    for (Field field : BitMixer.class.getDeclaredFields()) {
      check.due(field + " is private", true, () -> Modifier.isPrivate(field.getModifiers()));
    }
    for (Class<?> inside : BitMixer.class.getDeclaredClasses()) {
      check.due(inside + " is static", true, () -> Modifier.isStatic(inside.getModifiers()));
      lookAtHidden(check, inside, names);
    }
    check.end();
  }

  /** No method of the classes inside, and no private one, bears the name of a public one. */
  private static void lookAtHidden(Check check, Class<?> owner, TreeSet<String> names) {
    for (Method method : owner.getDeclaredMethods()) {
      boolean isFace = owner == BitMixer.class && Modifier.isPublic(method.getModifiers());
      if (!isFace) {
        check.due(method + " has a name of its own", false, () -> names.contains(method.getName()));
      }
    }
    for (Field field : owner.getDeclaredFields()) {
      boolean isFine = !Modifier.isStatic(field.getModifiers()) || Modifier.isFinal(field.getModifiers());
      check.due(field + " is no static state", true, () -> isFine);
    }
  }

  private static String written(Method method) {
    List<String> parameters = new ArrayList<>();
    for (Class<?> type : method.getParameterTypes()) {
      parameters.add(type.getSimpleName());
    }
    StringBuilder all = new StringBuilder();
    all.append(method.getReturnType().getSimpleName()).append(' ').append(method.getName());
    all.append('(').append(String.join(", ", parameters)).append(')');
    for (Class<?> thrown : method.getExceptionTypes()) {
      all.append(' ').append(thrown.getSimpleName());
    }
    return all.toString();
  }
}
