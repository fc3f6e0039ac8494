import java.util.function.BiFunction;
import java.util.function.Consumer;

/** Numbers that a call does not take: the ones beside the least and the greatest, and far ones. */
final class Edges {
  private Edges() {}

  /** There is nothing with those numbers, where there are as many as told, from 0 on. */
  static void noSuch(
      String what, int count, Consumer<LedgerKiln> before, BiFunction<LedgerKiln, Integer, Object> call) {
    int[] wrong = {-1, count, 1 << 30, Integer.MIN_VALUE, Integer.MAX_VALUE};
    for (int number : wrong) {
      Check.refusesIndex(what + " " + number, before, x -> call.apply(x, number));
    }
  }

  /** The numbers outside the least and the greatest are out of range. */
  static void outOf(
      String what,
      int least,
      int greatest,
      Consumer<LedgerKiln> before,
      BiFunction<LedgerKiln, Integer, Object> call) {
    int[] wrong = {least - 1, greatest + 1, Integer.MIN_VALUE, Integer.MAX_VALUE};
    for (int number : wrong) {
      Check.refusesArgument(what + " " + number, before, x -> call.apply(x, number));
    }
  }
}
