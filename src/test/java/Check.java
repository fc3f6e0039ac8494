import java.util.Objects;
import java.util.function.Consumer;
import java.util.function.Function;

/** Compares answers with those that are due, counts the wrong ones, and tells them. */
final class Check {
  private static int compared = 0;
  private static int wrong = 0;
  private static String place = "";

  private Check() {}

  /** From here on a wrong answer is told with that place. */
  static void at(String where) {
    place = where.isEmpty() ? "" : "[" + where + "] ";
  }

  static int compared() {
    return compared;
  }

  static void due(String what, Object got, Object due) {
    compared++;
    if (!Objects.equals(got, due)) {
      wrong++;
      System.out.println(place + what + " answered " + got + ", due is " + due);
    }
  }

  /** The answer of a call, or the simple name of the exception that it throws. */
  static Object answer(LedgerKiln kiln, Function<LedgerKiln, Object> call) {
    try {
      return call.apply(kiln);
    } catch (RuntimeException e) {
      return e.getClass().getSimpleName();
    }
  }

  /** What a call answers, or throws, behind what comes before it. */
  static Object answerAfter(Consumer<LedgerKiln> before, Function<LedgerKiln, Object> call) {
    return answer(after(before), call);
  }

  static void refusesIndex(String what, Consumer<LedgerKiln> before, Function<LedgerKiln, Object> call) {
    refuses(what, "IndexOutOfBoundsException", before, call);
  }

  static void refusesArgument(String what, Consumer<LedgerKiln> before, Function<LedgerKiln, Object> call) {
    refuses(what, "IllegalArgumentException", before, call);
  }

  static void refusesState(String what, Consumer<LedgerKiln> before, Function<LedgerKiln, Object> call) {
    refuses(what, "IllegalStateException", before, call);
  }

  /** The call, behind what comes before it, throws that exception and changes nothing. */
  private static void refuses(
      String what, String due, Consumer<LedgerKiln> before, Function<LedgerKiln, Object> call) {
    due(what, answer(after(before), call), due);
    String without = Snapshot.of(() -> after(before));
    String with =
        Snapshot.of(
            () -> {
              LedgerKiln kiln = after(before);
              answer(kiln, call);
              return kiln;
            });
    compared++;
    if (!with.equals(without)) {
      wrong++;
      System.out.println(place + what + " changes something: " + firstUnlike(without, with));
    }
  }

  static LedgerKiln after(Consumer<LedgerKiln> before) {
    LedgerKiln kiln = new LedgerKiln();
    before.accept(kiln);
    return kiln;
  }

  private static String firstUnlike(String without, String with) {
    String[] a = without.split("\n");
    String[] b = with.split("\n");
    for (int i = 0; i < Math.min(a.length, b.length); i++) {
      if (!a[i].equals(b[i])) {
        return a[i] + " became " + b[i];
      }
    }
    return a.length + " answers became " + b.length;
  }

  static void end(String name) {
    System.out.println(name + ": " + compared + " compared, " + wrong + " wrong");
    if (wrong != 0 || compared == 0) {
      System.exit(1);
    }
  }
}
