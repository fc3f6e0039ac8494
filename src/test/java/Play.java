import java.util.function.Consumer;

/** Short ways to bring an object where a test wants it. */
final class Play {
  private Play() {}

  /** Writes a page with two legs. */
  static int page(LedgerKiln x, int account, int other, int amount, int text) {
    x.leg(account, amount);
    x.leg(other, -amount);
    return x.write(text);
  }

  /** Writes pages with two legs for the accounts 0 and 1: 1, 2, 3 and so on. */
  static void pages(LedgerKiln x, int count) {
    for (int i = 0; i < count; i++) {
      page(x, 0, 1, i + 1, i);
    }
  }

  /** 80 pages in 160 calls: every second one is a reversal. */
  static void fullBook(LedgerKiln x) {
    for (int i = 0; i < 40; i++) {
      x.reverse(page(x, 0, 1, i + 1, i));
    }
  }

  static void times(int count, Runnable call) {
    for (int i = 0; i < count; i++) {
      call.run();
    }
  }

  static Consumer<LedgerKiln> nothing() {
    return x -> {};
  }
}
