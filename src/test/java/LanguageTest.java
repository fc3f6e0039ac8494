import java.io.IOException;
import java.nio.file.Files;
import java.nio.file.Path;
import java.util.List;

/** Some of the rules of LANGUAGE.md that the text of the program shows; run where src/ lies. */
public final class LanguageTest {
  private static final Path PROGRAM = Path.of("src/main/java/LedgerKiln.java");
  private static final int LONGEST_METHOD = 60;

  private static final String[] RULED_OUT = {
    "package ", "import ", "->", "::", "finally", "synchronized", "assert", "protected",
    "static {", "System.out", "Exception e", "var ", "native", "volatile", "hashCode", "toString",
    "Exact(", "Object", "transient", "Throwable", "try ", "catch ",
  };

  private LanguageTest() {}

  public static void main(String[] args) throws IOException {
    List<String> lines = Files.readAllLines(PROGRAM);
    for (String line : lines) {
      for (String word : RULED_OUT) {
        Check.due("'" + word + "' in: " + line, line.contains(word), false);
      }
      boolean ascii = line.chars().allMatch(c -> c >= 1 && c <= 127);
      Check.due("signs 1 to 127 in: " + line, ascii, true);
    }
    Check.due("a method is too long", longestBlock(lines) <= LONGEST_METHOD, true);
    Check.end("LanguageTest");
  }

  /** The most lines between two lines that close a method. */
  private static int longestBlock(List<String> lines) {
    int longest = 0;
    int length = 0;
    for (String line : lines) {
      length = line.equals("  }") || line.equals("    }") ? 0 : length + 1;
      longest = Math.max(longest, length);
    }
    return longest;
  }
}
