import java.util.LinkedHashMap;
import java.util.LinkedHashSet;
import java.util.Map;
import java.util.Set;
import java.util.stream.IntStream;

/** Looks at answers, each for a sentence of the document that it names. */
final class Sentences {
  static final String ARGUMENT = "IllegalArgumentException";
  static final String STATE = "IllegalStateException";
  static final String INDEX = "IndexOutOfBoundsException";

  private final Check check = new Check();
  private final Document document = new Document();
  private final Map<String, Set<String>> tested = new LinkedHashMap<>();
  private String here = "";
  private int lookedAtHere = 1;

  /** What follows is for this sentence, which must stand in the document word by word. */
  void says(String section, String sentence) {
    endSentence();
    here = section + ", \"" + sentence + "\"";
    lookedAtHere = 0;
    check.due(here + " stands in the document", true, () -> document.has(section, sentence));
    tested.computeIfAbsent(section, s -> new LinkedHashSet<>()).add(sentence);
  }

  /** This sentence asks for nothing, so that no test can be for it. */
  void leavesFree(String section, String sentence) {
    says(section, sentence);
    lookedAtHere++;
  }

  void due(String what, Object want, Check.Call call) {
    lookedAtHere++;
    check.due(here + ": " + what, want, call);
  }

  /** The call must throw this exception and leave everything as it was. */
  void refused(String what, String exception, Scene scene, Scene.Act act) {
    String told = what + " " + scene.name;
    due(told, "throws." + exception, () -> act.on(scene.make()));
    due(told + ", what it changed", "nothing", () -> scene.changedBy(act));
  }

  /** The call may answer as it likes, but must leave everything as it was. */
  void changesNothing(String what, Scene scene, Scene.Act act) {
    due(what + " " + scene.name + ", what it changed", "nothing", () -> scene.changedBy(act));
  }

  void same(String what, Scene one, Scene other) {
    due(what + ", what is different", "nothing", () -> one.differenceFrom(other));
  }

  /** Numbers that are not least to most: beside the bounds, far away, and some that wrap around to within. */
  static int[] outside(int least, int most) {
    int[] tried = {least - 1, most + 1, least - 2, most + 2, -1, least - 256, least + 256, most + 256,
        least + (1 << 16), least + (1 << 31), Integer.MIN_VALUE, Integer.MIN_VALUE + 1, Integer.MAX_VALUE - 1,
        Integer.MAX_VALUE};
    return IntStream.of(tried).filter(n -> n < least || n > most).distinct().toArray();
  }

  private void endSentence() {
    int many = lookedAtHere;
    check.due(here + ", something was looked at", true, () -> many > 0);
  }

  /** A sentence of the document without a test is a fault, too. */
  void end() {
    endSentence();
    check.due("the sections of the document", 4 + 34, () -> document.sections().size());
    for (String section : document.sections()) {
      lookForTests(section);
    }
    check.end();
  }

  private void lookForTests(String section) {
    Set<String> found = tested.getOrDefault(section, Set.of());
    for (String sentence : document.sentences(section)) {
      // a line on a parameter only says what it is; those that say more are tested all the same
      if (!sentence.startsWith("- `")) {
        check.due(section + ", \"" + sentence + "\" has a test", true, () -> found.contains(sentence));
      }
    }
  }
}
