import java.io.IOException;
import java.nio.file.Files;
import java.nio.file.Path;
import java.util.ArrayList;
import java.util.LinkedHashMap;
import java.util.List;
import java.util.Map;
import java.util.TreeSet;
import java.util.regex.Matcher;
import java.util.regex.Pattern;
import java.util.stream.Stream;

/**
 * What README.md says is true: its examples answer what stands behind them, its calls are the
 * document's, and the files and tests that it names are there. .ci/run starts it in the
 * project's folder.
 */
public final class ReadmeTest {
  private static final Path TESTS = Path.of("src/test/java");

  private final Check check = new Check();
  private final List<String> page;
  private final Map<String, Integer> answers = new LinkedHashMap<>();

  private ReadmeTest() throws IOException {
    page = Files.readAllLines(Path.of("README.md"));
  }

  public static void main(String[] args) throws IOException {
    ReadmeTest test = new ReadmeTest();
    test.runExamples();
    test.examplesAreThese();
    test.examplesAnswer();
    test.callsAreTheDocuments();
    test.filesAreThere();
    test.testsAreNamed();
    test.check.end();
  }

  private void runExamples() {
    // README
    BitMixer x = new BitMixer();
    int near = x.addModel(0, 4, 9);
    int far = x.addModel(2, 3, 9);
    x.feed(0x6162726163616461L, 8);
    int size = x.fill('a', 20);
    int bytes = x.encode();
    int head = x.code(0);
    int wrong = x.decode(size);
    int letter = x.output(0);
    int before = x.reset();
    int quality = x.observe(true);
    for (int bit = 1; bit < 16; bit++) {
      x.observe(bit % 8 == 0);
    }
    int latest = x.history(0);
    int next = x.mixed();
    int guess = x.prediction(near);
    int weight = x.weight(near, 0);
    int best = x.leader();
    // end
    answers.putAll(Map.of("near", near, "far", far, "size", size, "bytes", bytes));
    answers.putAll(Map.of("head", head, "wrong", wrong, "letter", letter, "before", before, "quality", quality));
    answers.putAll(Map.of("latest", latest, "next", next, "guess", guess, "weight", weight, "best", best));
  }

  /** The lines of README.md's examples, with what stands behind them. */
  private List<String> examples() {
    List<String> all = new ArrayList<>();
    boolean isJava = false;
    for (String line : page) {
      if (line.startsWith("```")) {
        isJava = line.equals("```java");
      } else if (isJava) {
        all.add(line);
      }
    }
    return all;
  }

  private static String withoutComment(String line) {
    return line.replaceAll(" *//.*", "").trim();
  }

  private void examplesAreThese() throws IOException {
    List<String> own = new ArrayList<>();
    boolean isExample = false;
    for (String line : Files.readAllLines(TESTS.resolve("ReadmeTest.java"))) {
      if (line.trim().equals("// README") || line.trim().equals("// end")) {
        isExample = line.trim().equals("// README");
      } else if (isExample) {
        own.add(line.trim());
      }
    }
    List<String> shown = new ArrayList<>();
    for (String line : examples()) {
      shown.add(withoutComment(line));
    }
    check.same("the examples that are run here", String.join("\n", own), String.join("\n", shown));
  }

  private void examplesAnswer() {
    Pattern told = Pattern.compile("int (\\w+) = .*; *// (-?\\d+): .*");
    TreeSet<String> seen = new TreeSet<>();
    for (String line : examples()) {
      Matcher matcher = told.matcher(line);
      if (matcher.matches()) {
        seen.add(matcher.group(1));
        check.same(line, matcher.group(2), String.valueOf(answers.get(matcher.group(1))));
      }
    }
    check.same("the answers that are told", new TreeSet<>(answers.keySet()).toString(), seen.toString());
  }

  private void callsAreTheDocuments() {
    List<String> due = new ArrayList<>();
    for (String declaration : new Document().face()) {
      due.add(call(declaration) + " throws " + thrown(declaration));
    }
    List<String> shown = new ArrayList<>();
    for (String line : page) {
      if (line.startsWith("| `")) {
        String[] cells = line.split("\\|");
        shown.add(cells[1].replace("`", "").trim() + " throws " + cells[3].replace("`", "").trim());
      }
    }
    check.same("the calls", String.join("\n", due), String.join("\n", shown));
  }

  /** A declaration's name and its parameters' names. */
  private static String call(String declaration) {
    return declaration.replaceAll(" throws .*", "").replaceAll("\\b(int|long|double|boolean) ", "");
  }

  private static String thrown(String declaration) {
    return declaration.contains(" throws ") ? declaration.replaceAll(".* throws ", "") : "";
  }

  private TreeSet<String> namesIn(String pattern) {
    TreeSet<String> all = new TreeSet<>();
    Matcher matcher = Pattern.compile(pattern).matcher(String.join("\n", page));
    while (matcher.find()) {
      all.add(matcher.group(1));
    }
    return all;
  }

  private void filesAreThere() {
    TreeSet<String> files = namesIn("((?:\\.\\./shared|\\.ci|src)/[\\w./]*\\w)");
    check.due("some files are named", true, () -> files.contains("src/main/java/BitMixer.java"));
    for (String file : files) {
      check.due(file + " is there", true, () -> Files.exists(Path.of(file)));
    }
    check.due(".ci/run can be run", true, () -> Files.isExecutable(Path.of(".ci/run")));
  }

  private void testsAreNamed() throws IOException {
    TreeSet<String> due = new TreeSet<>();
    try (Stream<Path> files = Files.list(TESTS)) {
      files.forEach(file -> due.add(file.getFileName().toString().replace(".java", "")));
    }
    TreeSet<String> named = namesIn("`([A-Z][a-zA-Z]+)`");
    named.removeIf(name -> name.endsWith("Exception"));
    check.same("the tests and their parts", due.toString(), named.toString());
  }
}
