import java.io.IOException;
import java.nio.file.Files;
import java.nio.file.Path;
import java.util.TreeSet;
import java.util.regex.Matcher;
import java.util.regex.Pattern;

/**
 * What a reading of the source by words can find against LANGUAGE.md. .ci/run starts it in
 * the project's folder.
 */
public final class LanguageTest {
  private static final String[] LEFT_OUT = {
    "try", "catch", "finally", "synchronized", "assert", "package", "volatile", "native", "transient", "var",
    "Object", "System", "Exact", "NaN", "protected", "lambda",
  };

  public static void main(String[] args) throws IOException {
    Check check = new Check();
    String source = Files.readString(Path.of("src/main/java/BitMixer.java"));
    check.due("rule 4: signs 1 to 127 alone", true, () -> source.chars().allMatch(c -> c >= 1 && c <= 127));
    String bare = withoutTextsAndComments(source);
    for (String word : LEFT_OUT) {
      check.due("the word " + word, false, () -> Pattern.compile("\\b" + word + "\\b").matcher(bare).find());
    }
    check.due("rule 2: lambdas and method references", false, () -> bare.contains("->") || bare.contains("::"));
    check.due("rule 4: imports", "[java.util.Arrays]", () -> all(bare, "\\bimport\\s+([\\w.*]+);"));
    check.due("rule 4: library calls", "[Arrays.fill, Math.max, Math.min]",
        () -> all(bare, "\\b((?:Arrays|Math|Integer|Long|String|List)\\.\\w+)"));
    check.due("rule 6: exceptions", "[IllegalArgumentException, IllegalStateException, IndexOutOfBoundsException]",
        () -> all(bare, "\\bthrow\\s+new\\s+(\\w+)"));
    check.due("rule 6: every throw makes its exception of a written text", count(bare, "\\bthrow\\b"),
        () -> count(bare, "\\bthrow\\s+new\\s+\\w+\\(\"\"\\);"));
    check.due("rule 5: static fields are final", 0,
        () -> count(bare, "(?m)^\\s*(private\\s+)?static\\s+(?!final\\b)[\\w\\[\\]]+\\s+\\w+\\s*(=|;)"));
    check.due("rule 9: only loops with a counter", 0, () -> count(bare, "\\b(while|do)\\b"));
    check.due("rule 11: at most twelve classes", true, () -> count(bare, "\\b(class|record|enum|interface)\\b") <= 12);
    check.due("rule 11: methods are short", true, () -> longestMethod(bare) <= 60);
    check.end();
  }

  private static String withoutTextsAndComments(String source) {
    return source.replaceAll("\"[^\"\\n]*\"", "\"\"").replaceAll("(?s)/\\*.*?\\*/", "").replaceAll("//[^\\n]*", "");
  }

  private static String all(String source, String pattern) {
    TreeSet<String> found = new TreeSet<>();
    Matcher matcher = Pattern.compile(pattern).matcher(source);
    while (matcher.find()) {
      found.add(matcher.group(1));
    }
    return found.toString();
  }

  private static int count(String source, String pattern) {
    return (int) Pattern.compile(pattern).matcher(source).results().count();
  }

  /** A method begins with a brace behind its parameters and ends with one as far to the left. */
  private static int longestMethod(String source) {
    int longest = 0;
    Matcher method = Pattern.compile("(?ms)^( {2}| {4})(?:[\\w\\[\\]]+ )*\\w+\\([^;{}]*?\\{$.*?^\\1\\}$").matcher(source);
    int methods = 0;
    while (method.find()) {
      methods++;
      longest = Math.max(longest, (int) method.group().lines().count());
    }
    return methods > 34 ? longest : Integer.MAX_VALUE;
  }
}
