import java.util.function.Consumer;

/** Short ways to bring an object where a test wants it. */
final class Play {
  private Play() {}

  /** Writes a page with two legs. */
  static int page(LedgerKiln x, int account, int other, int amount, int text) {
    x.leg(account, amount);
    x.leg(other, -amount);
    return x.write(text);
  }

  /** Adds legs: account and amount in turn. */
  static void legs(LedgerKiln x, int... numbers) {
    for (int i = 0; i + 1 < numbers.length; i += 2) {
      x.leg(numbers[i], numbers[i + 1]);
    }
  }

  /** The mark as the document tells it, from the day, the text, and accounts and amounts in turn. */
  static int markOf(int... numbers) {
    long m = 1;
    for (int i = 0; i < numbers.length; i++) {
      int v = i >= 2 && i % 2 == 1 ? numbers[i] + 10000 : numbers[i];
      m = (131 * m + 17 * v + 7) % 1000003;
    }
    return (int) m;
  }

  /** Writes pages with two legs for the accounts 0 and 1: 1, 2, 3 and so on. */
  static void pages(LedgerKiln x, int count) {
    for (int i = 0; i < count; i++) {
      page(x, 0, 1, i + 1, i);
    }
  }

  /** 80 pages in 160 calls: every second one is a reversal. */
  static void fullBook(LedgerKiln x) {
    for (int i = 0; i < 40; i++) {
      x.reverse(page(x, 0, 1, i + 1, i));
    }
  }

  /** 79 pages in 159 calls: the last one, 78, was not reversed. */
  static void oneShort(LedgerKiln x) {
    for (int i = 0; i < 39; i++) {
      x.reverse(page(x, 0, 1, i + 1, i));
    }
    page(x, 0, 1, 40, 40);
  }

  /** Pages 0 and 1 in the copy 0, pages 2 and 3 in the copy 1 from it, the copy 2 thrown away. */
  static void threeCopies(LedgerKiln x) {
    pages(x, 2);
    x.copy();
    pages(x, 2);
    x.copyFrom(0);
    x.copy();
    x.throwAway(2);
  }

  /** A page in 16 full copies. */
  static void sixteenCopies(LedgerKiln x) {
    pages(x, 1);
    times(16, () -> x.copy());
  }

  /** Days go by up to a day. */
  static void until(LedgerKiln x, int day) {
    for (int left = day - x.day(); left > 0; left -= 100) {
      x.pass(Math.min(left, 100));
    }
  }

  static void times(int count, Runnable call) {
    for (int i = 0; i < count; i++) {
      call.run();
    }
  }

  static Consumer<LedgerKiln> nothing() {
    return x -> {};
  }
}
