import java.io.IOException;
import java.lang.reflect.Constructor;
import java.lang.reflect.Field;
import java.lang.reflect.Method;
import java.lang.reflect.Modifier;
import java.nio.file.Files;
import java.nio.file.Path;
import java.util.ArrayList;
import java.util.List;
import java.util.TreeSet;
import java.util.regex.Matcher;
import java.util.regex.Pattern;

/**
 * The public face is the document's, word by word, and nothing else of the class can be seen
 * from outside.
 */
public final class FaceTest {
  private static final Path SOURCE = Path.of("src/main/java/BitMixer.java");

  private final Check check = new Check();
  private final Document document = new Document();

  public static void main(String[] args) throws IOException {
    FaceTest test = new FaceTest();
    test.theClass();
    test.theSource();
    test.theMethods();
    test.theConstructor();
    test.theRest();
    test.check.end();
  }

  private void theClass() {
    int flags = BitMixer.class.getModifiers();
    check.due("the class is public and final", true, () -> Modifier.isPublic(flags) && Modifier.isFinal(flags));
    check.due("the class has no package", "", () -> BitMixer.class.getPackageName());
    check.due("the class has no class above it", Object.class, () -> BitMixer.class.getSuperclass());
    check.due("the class implements nothing", 0, () -> BitMixer.class.getInterfaces().length);
  }

  /** Parameters' names, too, and the order of what is thrown: the source has them, the compiled class has not. */
  private void theSource() throws IOException {
    List<String> declared = new ArrayList<>();
    Matcher line = Pattern.compile("(?m)^  public (?!final class )(.*) \\{$").matcher(Files.readString(SOURCE));
    while (line.find()) {
      declared.add(line.group(1));
    }
    check.due("the face has a constructor and 33 methods", 34, () -> document.face().size());
    check.same("what the source declares, in the order of the face",
        String.join("\n", document.face()), String.join("\n", declared));
    check.due("a promise for each of them", 34, () -> document.signatures().size());
    for (int i = 0; i < 34; i++) {
      int at = i;
      check.due("Promise " + (at + 1), document.signatures().get("Promise " + (at + 1)), () -> declared.get(at));
    }
  }

  private void theMethods() {
    TreeSet<String> due = new TreeSet<>();
    for (String declaration : document.face()) {
      if (!declaration.startsWith("BitMixer(")) {
        due.add(bare(declaration));
      }
    }
    TreeSet<String> shown = new TreeSet<>();
    for (Method method : BitMixer.class.getDeclaredMethods()) {
      if (!Modifier.isPrivate(method.getModifiers())) {
        shown.add(written(method));
        check.due(method + " is public alone", Modifier.PUBLIC, method::getModifiers);
      }
    }
    check.same("the methods that can be seen", due.toString(), shown.toString());
  }

  /** A declaration without its parameters' names. */
  private static String bare(String declaration) {
    return declaration.replaceAll("(int|long|boolean) \\w+(?=[,)])", "$1");
  }

  private static String written(Method method) {
    StringBuilder all = new StringBuilder();
    all.append(method.getReturnType().getSimpleName()).append(' ').append(method.getName());
    all.append('(').append(names(method.getParameterTypes())).append(')');
    if (method.getExceptionTypes().length > 0) {
      all.append(" throws ").append(names(method.getExceptionTypes()));
    }
    return all.toString();
  }

  private static String names(Class<?>[] types) {
    List<String> all = new ArrayList<>();
    for (Class<?> type : types) {
      all.add(type.getSimpleName());
    }
    return String.join(", ", all);
  }

  private void theConstructor() {
    Constructor<?>[] constructors = BitMixer.class.getDeclaredConstructors();
    check.due("constructors", 1, () -> constructors.length);
    check.due("the constructor's parameters", 0, () -> constructors[0].getParameterCount());
    check.due("the constructor is public", true, () -> Modifier.isPublic(constructors[0].getModifiers()));
    check.due("the constructor declares no exception", 0, () -> constructors[0].getExceptionTypes().length);
  }

  private void theRest() {
    for (Field field : BitMixer.class.getDeclaredFields()) {
      check.due(field + " is private", true, () -> Modifier.isPrivate(field.getModifiers()));
    }
    lookAtHidden(BitMixer.class);
    for (Class<?> inside : BitMixer.class.getDeclaredClasses()) {
      int flags = inside.getModifiers();
      check.due(inside + " is static", true, () -> Modifier.isStatic(flags));
      check.due(inside + " cannot be seen", false, () -> Modifier.isPublic(flags) || Modifier.isProtected(flags));
      lookAtHidden(inside);
    }
  }

  /** No method of the classes inside, and no private one, bears the name of a public one. */
  private void lookAtHidden(Class<?> owner) {
    TreeSet<String> names = new TreeSet<>();
    for (String declaration : document.face()) {
      names.add(declaration.replaceAll("\\(.*", "").replaceAll(".* ", ""));
    }
    for (Method method : owner.getDeclaredMethods()) {
      boolean isFace = owner == BitMixer.class && Modifier.isPublic(method.getModifiers());
      if (!isFace) {
        check.due(method + " has a name of its own", false, () -> names.contains(method.getName()));
      }
    }
    for (Field field : owner.getDeclaredFields()) {
      boolean isFine = !Modifier.isStatic(field.getModifiers()) || Modifier.isFinal(field.getModifiers());
      check.due(field + " is no static state", true, () -> isFine);
    }
  }
}
