import java.io.IOException;
import java.lang.reflect.Constructor;
import java.lang.reflect.Field;
import java.lang.reflect.Method;
import java.lang.reflect.Modifier;
import java.nio.file.Files;
import java.nio.file.Path;
import java.util.ArrayList;
import java.util.LinkedHashMap;
import java.util.List;
import java.util.Map;
import java.util.TreeSet;
import java.util.regex.Matcher;
import java.util.regex.Pattern;

/**
 * What a reading of the source by words can find against LANGUAGE.md. .ci/run starts it in
 * the project's folder.
 */
public final class LanguageTest {
  private static final String[] LEFT_OUT = {
    "try", "catch", "finally", "synchronized", "assert", "package", "volatile", "native", "transient", "var",
    "Object", "System", "Exact", "NaN", "protected", "lambda", "float", "Float", "Double", "Boolean", "Character",
    "Byte", "Short", "Thread", "Random", "toString", "equals", "hashCode", "instanceof", "super", "extends",
  };
  /** A method or constructor begins with a brace behind its parameters and ends with one as far to the left. */
  private static final Pattern BODY = Pattern.compile(
      "(?ms)^( {2}| {4})((?:[\\w\\[\\]]+ )*)(\\w+)\\([^;{}]*?\\{$(.*?)^\\1\\}$");
  private static final String[] CLASSES = {"BitMixer", "ByteRow", "Model", "Predictor", "Interval"};
  private static final int CALLS_DEEP = 8;

  private final Check check = new Check();
  private final String bare;
  /** Behind each method's name what is in it; no two methods of the file have the same name. */
  private final Map<String, String> methods = new LinkedHashMap<>();
  private final Map<String, String> constructors = new LinkedHashMap<>();

  private LanguageTest(String source) {
    check.due("rule 4: signs 1 to 127 alone", true, () -> source.chars().allMatch(c -> c >= 1 && c <= 127));
    bare = withoutTextsAndComments(source);
    Matcher body = BODY.matcher(bare);
    while (body.find()) {
      boolean isConstructor = List.of(CLASSES).contains(body.group(3));
      String other = (isConstructor ? constructors : methods).put(body.group(3), body.group(4));
      check.due("one method is named " + body.group(3), null, () -> other);
    }
  }

  public static void main(String[] args) throws IOException {
    LanguageTest test = new LanguageTest(Files.readString(Path.of("src/main/java/BitMixer.java")));
    test.words();
    test.library();
    test.exceptions();
    test.classes();
    test.sizes();
    test.objects();
    test.calls();
    test.check.end();
  }

  private static String withoutTextsAndComments(String source) {
    return source.replaceAll("\"[^\"\\n]*\"", "\"\"").replaceAll("(?s)/\\*.*?\\*/", "").replaceAll("//[^\\n]*", "");
  }

  private static String all(String source, String pattern) {
    TreeSet<String> found = new TreeSet<>();
    Matcher matcher = Pattern.compile(pattern).matcher(source);
    while (matcher.find()) {
      found.add(matcher.group(1));
    }
    return found.toString();
  }

  private static int count(String source, String pattern) {
    return (int) Pattern.compile(pattern).matcher(source).results().count();
  }

  private void words() {
    for (String word : LEFT_OUT) {
      check.due("the word " + word, 0, () -> count(bare, "\\b" + word + "\\b"));
    }
    check.due("rule 2: lambdas and method references", false, () -> bare.contains("->") || bare.contains("::"));
    check.due("rule 3: arrays of more than one dimension", false, () -> bare.contains("[]["));
    check.due("rule 9: only loops with a counter", 0, () -> count(bare, "\\b(while|do)\\b"));
    check.due("rule 9: no loop without a bound", 0, () -> count(bare, "\\bfor \\([^;)]*;\\s*;"));
    check.due("rule 10: no texts joined by +", 0, () -> count(bare, "\"\" *\\+|\\+ *\"\""));
  }

  private void library() {
    check.due("rule 4: imports", "[java.util.Arrays]", () -> all(bare, "\\bimport\\s+([\\w.*]+);"));
    check.due("rule 4: library calls", "[Arrays.fill, Math.max, Math.min]",
        () -> all(bare, "\\b((?:Arrays|Math|Integer|Long|String|List)\\.\\w+)"));
  }

  private void exceptions() {
    check.due("rule 6: exceptions", "[IllegalArgumentException, IllegalStateException, IndexOutOfBoundsException]",
        () -> all(bare, "\\bthrow\\s+new\\s+(\\w+)"));
    check.due("rule 6: every throw makes its exception of a written text", count(bare, "\\bthrow\\b"),
        () -> count(bare, "\\bthrow\\s+new\\s+\\w+\\(\"\"\\);"));
    check.due("rule 6: no throw in a constructor", 0, () -> count(constructors.values().toString(), "\\bthrow\\b"));
  }

  private void classes() {
    check.same("the classes, each with a constructor", new TreeSet<>(List.of(CLASSES)).toString(),
        new TreeSet<>(constructors.keySet()).toString());
    check.due("rule 2: no anonymous classes", 0, () -> count(bare, "\\bnew\\s+\\w+\\([^)]*\\)\\s*\\{"));
    check.due("rule 5: static fields are final", 0,
        () -> count(bare, "(?m)^\\s*(private\\s+)?static\\s+(?!final\\b)[\\w\\[\\]]+\\s+\\w+\\s*(=|;)"));
    check.due("rule 5: no static initialiser", 0, () -> count(bare, "\\bstatic\\s*\\{"));
    check.due("rule 12: no class can be extended", count(bare, "\\bclass\\b"), () -> count(bare, "\\bfinal class\\b"));
  }

  private void sizes() {
    check.due("all methods were found", true, () -> methods.size() > 33);
    check.due("rule 11: at most twelve classes", true, () -> count(bare, "\\b(class|record|enum|interface)\\b") <= 12);
    for (Map.Entry<String, String> method : methods.entrySet()) {
      check.due("rule 11: " + method.getKey() + " is short", true, () -> method.getValue().lines().count() <= 60);
    }
    lookAtSizes(BitMixer.class);
    for (Class<?> inside : BitMixer.class.getDeclaredClasses()) {
      lookAtSizes(inside);
    }
  }

  private void lookAtSizes(Class<?> owner) {
    int fields = 0;
    for (Field field : owner.getDeclaredFields()) {
      fields += Modifier.isStatic(field.getModifiers()) ? 0 : 1;
    }
    int own = fields;
    check.due("rule 11: " + owner + " has at most twenty fields", true, () -> own <= 20);
    for (Method method : owner.getDeclaredMethods()) {
      check.due("rule 11: " + method + " has at most seven parameters", true, () -> method.getParameterCount() <= 7);
    }
    for (Constructor<?> made : owner.getDeclaredConstructors()) {
      check.due("rule 11: " + made + " has at most seven parameters", true, () -> made.getParameterCount() <= 7);
    }
  }

  /** What a run makes is counted: but for exceptions, only a new BitMixer makes objects. */
  private void objects() {
    for (Map.Entry<String, String> method : methods.entrySet()) {
      check.due("rule 12: " + method.getKey() + " makes nothing", 0,
          () -> count(method.getValue(), "(?<!throw )\\bnew\\b|\\bclone\\b"));
    }
  }

  private void calls() {
    for (String method : methods.keySet()) {
      check.due("rules 8 and 11: " + method + " calls itself never and others not too deep", true,
          () -> depth(method, new ArrayList<>()) <= CALLS_DEEP);
    }
  }

  /** How many calls stand open at once when this method is called, itself among them. */
  private int depth(String method, List<String> open) {
    if (open.contains(method)) {
      return CALLS_DEEP + 1;
    }
    List<String> now = new ArrayList<>(open);
    now.add(method);
    int deepest = 0;
    Matcher call = Pattern.compile("((?:Arrays|Math)\\.)?\\b(\\w+)\\(").matcher(methods.get(method));
    while (call.find()) {
      boolean isOwn = call.group(1) == null && methods.containsKey(call.group(2));
      deepest = Math.max(deepest, isOwn ? depth(call.group(2), now) : call.group(1) == null ? 0 : 1);
    }
    return 1 + deepest;
  }
}
