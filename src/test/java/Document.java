import java.io.IOException;
import java.io.UncheckedIOException;
import java.nio.file.Files;
import java.nio.file.Path;
import java.util.ArrayList;
import java.util.LinkedHashMap;
import java.util.LinkedHashSet;
import java.util.List;
import java.util.Map;
import java.util.Set;
import java.util.regex.Pattern;

/**
 * What ../shared/DOC.md says: its sentences by section, and the declarations of the face.
 * .ci/run starts the tests in the project's folder.
 */
final class Document {
  private static final Path FILE = Path.of("../shared/DOC.md");
  /** A word or two that only name what a paragraph is about, and the number of a step. */
  private static final Pattern LABEL =
      Pattern.compile("Text\\.|Models\\.|State of the predictor\\.|Learning\\.|Arithmetic coder\\.|\\d\\.");

  private final Map<String, Set<String>> sections = new LinkedHashMap<>();
  private final List<String> face = new ArrayList<>();
  private final Map<String, String> signatures = new LinkedHashMap<>();

  Document() {
    String section = "";
    boolean isCode = false;
    for (String line : lines()) {
      if (line.startsWith("```")) {
        isCode = !isCode;
      } else if (isCode) {
        addDeclaration(line.trim());
      } else if (line.startsWith("## ")) {
        section = line.substring(3).replaceAll(":.*", "");
        sections.put(section, new LinkedHashSet<>());
      } else if (line.startsWith("`")) {
        signatures.put(section, line.replace("`", ""));
      } else if (isProse(line.trim()) && sections.containsKey(section)) {
        addSentences(sections.get(section), line.trim());
      }
    }
  }

  private void addDeclaration(String line) {
    if (line.startsWith("public ") && line.endsWith(";")) {
      face.add(line.substring(7, line.length() - 1));
    }
  }

  private static Iterable<String> lines() {
    try {
      return Files.readAllLines(FILE);
    } catch (IOException e) {
      throw new UncheckedIOException(e);
    }
  }

  private static boolean isProse(String line) {
    return !line.isEmpty() && !line.startsWith("----");
  }

  private static void addSentences(Set<String> all, String line) {
    for (String sentence : line.split("(?<=\\.) (?=[A-Z])")) {
      if (!LABEL.matcher(sentence).matches()) {
        all.add(sentence);
      }
    }
  }

  boolean has(String section, String sentence) {
    return sections.getOrDefault(section, Set.of()).contains(sentence);
  }

  /** The constructor and the methods as the section on the face declares them, without "public". */
  List<String> face() {
    return face;
  }

  /** The same, as the promises' own sections declare them, by section. */
  Map<String, String> signatures() {
    return signatures;
  }

  Set<String> sections() {
    return sections.keySet();
  }

  Set<String> sentences(String section) {
    return sections.getOrDefault(section, Set.of());
  }
}
