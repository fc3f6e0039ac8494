import java.io.IOException;
import java.nio.file.Files;
import java.nio.file.Path;
import java.util.ArrayList;
import java.util.LinkedHashMap;
import java.util.List;
import java.util.Map;

/**
 * The sentences of the document, each with tests of its own. A test names its sentence by the part
 * of the document and by words of it; in the end each sentence is to have been named.
 */
final class Sentences {
  private static final Path DOCUMENT = Path.of("../shared/DOC.md");
  private static final String PLAIN_PARAMETER = "- `\\w+`: (the|its) (account|page|copy|case|base)";

  private final Map<String, List<String>> untested = new LinkedHashMap<>();
  private final Map<String, List<String>> all = new LinkedHashMap<>();

  Sentences() throws IOException {
    String part = "";
    for (String line : Files.readAllLines(DOCUMENT)) {
      if (line.startsWith("## ")) {
        part = line.substring(3).replaceAll(":.*", "");
      } else if (part.equals("Terms") || part.equals("What it is")) {
        for (String sentence : line.split("(?<=\\.) ")) {
          add(part, sentence);
        }
      } else if (part.startsWith("Promise ")) {
        add(part, line.replaceAll("^`.*`: ", ""));
      }
    }
  }

  /** Headings, the layout of the interface and parameters without bounds are nothing to test. */
  private void add(String part, String sentence) {
    boolean heading = sentence.length() < 12;
    boolean layout = sentence.startsWith("Ahead of the calls") || sentence.startsWith("An account book");
    if (!heading && !layout && !sentence.matches(PLAIN_PARAMETER)) {
      untested.computeIfAbsent(part, p -> new ArrayList<>()).add(sentence);
      all.computeIfAbsent(part, p -> new ArrayList<>()).add(sentence);
    }
  }

  /** A test of the sentences of a promise that have those words. */
  void promise(int number, String words, Runnable test) {
    test("Promise " + number, words, test);
  }

  /** A test of the sentence among the terms that has those words. */
  void term(String words, Runnable test) {
    test("Terms", words, test);
  }

  void test(String part, String words, Runnable test) {
    Check.at(part + ": " + words);
    boolean known = all.get(part).stream().anyMatch(sentence -> sentence.contains(words));
    Check.due("the document has that sentence", known, true);
    untested.get(part).removeIf(sentence -> sentence.contains(words));
    int before = Check.compared();
    test.run();
    Check.due("the test compares something", Check.compared() > before, true);
    Check.at("");
  }

  void end() {
    for (Map.Entry<String, List<String>> part : untested.entrySet()) {
      Check.due(part.getKey() + ", sentences without a test", part.getValue(), List.of());
    }
  }
}
