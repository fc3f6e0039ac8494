import java.io.File;
import java.io.IOException;
import java.lang.reflect.Method;
import java.lang.reflect.Modifier;
import java.nio.charset.StandardCharsets;
import java.nio.file.Files;
import java.nio.file.Path;
import java.util.ArrayList;
import java.util.List;

/** README.md: its example holds as it is printed, and no call and no test is missing there. */
public final class ReadmeTest {
  private static final Path README = Path.of("README.md");
  private static final Path TESTS = Path.of("src/test/java");
  private static final Path PLACE = Path.of("build/readme");
  private static final List<String> LINES = new ArrayList<>();

  private ReadmeTest() {}

  public static void main(String[] args) throws IOException, InterruptedException {
    LINES.addAll(Files.readAllLines(README));
    exampleHolds();
    everyCallIsNamed();
    everyTestIsNamed();
    Check.end("ReadmeTest");
  }

  /** The commands run in a directory that is like the project's, so that nothing is left behind. */
  private static void exampleHolds() throws IOException, InterruptedException {
    remove(PLACE.toFile());
    Path program = PLACE.resolve("src/main/java/LedgerKiln.java");
    Files.createDirectories(program.getParent());
    Files.write(program, Files.readAllBytes(Path.of("src/main/java/LedgerKiln.java")));
    Files.write(PLACE.resolve("Example.java"), blockOf("java"));
    List<String> commands = blockOf("sh");
    Check.due("lines of commands", commands.size(), 2);
    File told = PLACE.resolve("told").toFile();
    for (String command : commands) {
      Process process =
          new ProcessBuilder(command.split(" "))
              .directory(PLACE.toFile())
              .redirectOutput(told)
              .redirectError(ProcessBuilder.Redirect.INHERIT)
              .start();
      Check.due(command, process.waitFor(), 0);
    }
    Check.due("what the example prints", Files.readAllLines(told.toPath()), blockOf("text"));
  }

  /** What an earlier run compiled there would hide a command that compiles nothing. */
  private static void remove(File place) {
    File[] parts = place.listFiles();
    if (parts != null) {
      for (File part : parts) {
        remove(part);
      }
    }
    place.delete();
  }

  /** The lines of the only block of that kind. */
  private static List<String> blockOf(String kind) {
    List<String> block = new ArrayList<>();
    int start = LINES.indexOf("```" + kind);
    Check.due("a block of " + kind, start >= 0, true);
    Check.due("one block of " + kind, LINES.lastIndexOf("```" + kind), start);
    for (int i = start + 1; i < LINES.size() && !LINES.get(i).equals("```"); i++) {
      block.add(LINES.get(i));
    }
    return block;
  }

  private static void everyCallIsNamed() {
    for (Method method : LedgerKiln.class.getDeclaredMethods()) {
      if (Modifier.isPublic(method.getModifiers())) {
        isNamed(method.getName());
      }
    }
  }

  private static void everyTestIsNamed() {
    File[] files = TESTS.toFile().listFiles((place, name) -> name.endsWith("Test.java"));
    Check.due("there are tests", files != null && files.length > 0, true);
    for (File file : files) {
      isNamed(file.getName().replace(".java", ""));
    }
  }

  private static void isNamed(String name) {
    boolean named = LINES.stream().anyMatch(line -> line.contains("`" + name + "`"));
    Check.due("README.md names " + name, named, true);
  }
}
