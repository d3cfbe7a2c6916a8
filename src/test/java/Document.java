import java.io.IOException;
import java.io.UncheckedIOException;
import java.nio.file.Files;
import java.nio.file.Path;
import java.util.LinkedHashMap;
import java.util.LinkedHashSet;
import java.util.Map;
import java.util.Set;
import java.util.regex.Pattern;

/** The sentences of ../shared/DOC.md by section; .ci/run starts the tests in the project's folder. */
final class Document {
  private static final Path FILE = Path.of("../shared/DOC.md");
  /** A word or two that only name what a paragraph is about, and the number of a step. */
  private static final Pattern LABEL =
      Pattern.compile("Text\\.|Models\\.|State of the predictor\\.|Learning\\.|Arithmetic coder\\.|\\d\\.");

  private final Map<String, Set<String>> sections = new LinkedHashMap<>();

  Document() {
    String section = "";
    for (String line : lines()) {
      if (line.startsWith("## ")) {
        section = line.substring(3).replaceAll(":.*", "");
        sections.put(section, new LinkedHashSet<>());
      } else if (isProse(line.trim()) && sections.containsKey(section)) {
        addSentences(sections.get(section), line.trim());
      }
    }
  }

  private static Iterable<String> lines() {
    try {
      return Files.readAllLines(FILE);
    } catch (IOException e) {
      throw new UncheckedIOException(e);
    }
  }

  private static boolean isProse(String line) {
    return !line.isEmpty() && !line.startsWith("`") && !line.startsWith("----");
  }

  private static void addSentences(Set<String> all, String line) {
    for (String sentence : line.split("(?<=\\.) (?=[A-Z])")) {
      if (!LABEL.matcher(sentence).matches()) {
        all.add(sentence);
      }
    }
  }

  boolean has(String section, String sentence) {
    return sections.getOrDefault(section, Set.of()).contains(sentence);
  }

  Set<String> sections() {
    return sections.keySet();
  }

  Set<String> sentences(String section) {
    return sections.getOrDefault(section, Set.of());
  }
}
