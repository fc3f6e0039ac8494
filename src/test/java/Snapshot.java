import java.util.function.Function;
import java.util.function.Supplier;

/**
 * All that an object answers, a line each. An object is good for 512 calls, so a new one, made by
 * the same calls, is taken before too many were asked; and one of its own for each call that
 * changes something, which shows what no other call tells: the draft and the numbers of holds.
 */
final class Snapshot {
  private static final int CALLS_OF_ONE = 200;

  private final Supplier<LedgerKiln> source;
  private final StringBuilder told = new StringBuilder();
  private LedgerKiln kiln;
  private int asked = 0;

  private Snapshot(Supplier<LedgerKiln> source) {
    this.source = source;
    this.kiln = source.get();
  }

  static String of(Supplier<LedgerKiln> source) {
    Snapshot snapshot = new Snapshot(source);
    snapshot.askAll();
    return snapshot.told.toString();
  }

  private void ask(String what, Function<LedgerKiln, Object> call) {
    if (asked == CALLS_OF_ONE) {
      kiln = source.get();
      asked = 0;
    }
    asked++;
    told.append(what).append(' ').append(Check.answer(kiln, call)).append('\n');
  }

  private void askNew(String what, Function<LedgerKiln, Object> call) {
    told.append(what).append(' ').append(Check.answer(source.get(), call)).append('\n');
  }

  private void askAll() {
    LedgerKiln first = source.get();
    int pages = first.pages();
    int day = first.day();
    ask("day", x -> x.day());
    ask("pages", x -> x.pages());
    ask("copies", x -> x.copies());
    ask("gaps", x -> x.gaps());
    ask("lost", x -> x.lost());
    for (int page = 0; page < pages; page++) {
      askPage(page);
    }
    for (int account = 0; account < 8; account++) {
      askBalances(account, 0);
      askBalances(account, day / 2);
      askBalances(account, day);
    }
    for (int copy = 0; copy < 16; copy++) {
      askCopy(copy, pages);
    }
    for (int lawsuit = 0; lawsuit < 8; lawsuit++) {
      askCase(lawsuit, pages);
    }
    askHidden();
    askAmounts(pages);
  }

  private void askPage(int page) {
    ask("state " + page, x -> x.state(page));
    ask("isTrue " + page, x -> x.isTrue(page));
    ask("text " + page, x -> x.text(page));
    ask("mark " + page, x -> x.mark(page));
    ask("reversal " + page, x -> x.reversal(page));
    ask("copiesOf " + page, x -> x.copiesOf(page));
    ask("holders " + page, x -> x.holders(page));
    for (int account = 0; account < 8; account++) {
      int asked = account;
      ask("proven " + page + " " + account, x -> x.proven(page, asked));
    }
  }

  private void askBalances(int account, int day) {
    String what = account + " " + day;
    ask("balance " + what, x -> x.balance(account, day));
    ask("balanceByPages " + what, x -> x.balanceByPages(account, day));
    ask("balanceByCopies " + what, x -> x.balanceByCopies(account, day));
  }

  private void askCopy(int copy, int pages) {
    ask("size " + copy, x -> x.size(copy));
    if (isAbsent(copy)) {
      return;
    }
    ask("isInVault " + copy, x -> x.isInVault(copy));
    ask("canRestore " + copy, x -> x.canRestore(copy));
    ask("audit " + copy, x -> x.audit(copy));
    for (int page = 0; page < pages; page++) {
      int asked = page;
      ask("stands " + copy + " " + page, x -> x.stands(copy, asked));
    }
  }

  /** Whether there is no such copy, so that nothing more is to be asked of it. */
  private boolean isAbsent(int copy) {
    return Check.answer(kiln, x -> x.size(copy)).equals("IndexOutOfBoundsException");
  }

  private void askCase(int lawsuit, int pages) {
    ask("isOpen " + lawsuit, x -> x.isOpen(lawsuit));
    for (int page = 0; page < pages; page++) {
      int asked = page;
      ask("canStrike " + lawsuit + " " + page, x -> x.canStrike(lawsuit, asked));
    }
  }

  private void askHidden() {
    for (int copy = 0; copy < 16; copy++) {
      int asked = copy;
      askNew("throwAway " + copy, x -> x.throwAway(asked));
      askNew("copyFrom " + copy, x -> x.size(x.copyFrom(asked)));
      askNew("restored from " + copy, x -> restoredFrom(x, asked));
    }
    for (int lawsuit = 0; lawsuit < 8; lawsuit++) {
      int asked = lawsuit;
      askNew("close " + lawsuit, x -> x.close(asked));
    }
    askNew("wipe", x -> x.wipe());
    askNew("write", x -> x.mark(x.write(4321)));
    askNew("balanced", x -> x.leg(0, 7) * 1000000 + x.leg(1, -7) * 100000 + x.mark(x.write(4321)));
    askNew("copy", x -> x.copy());
    askNew("copy, as soon as nothing is burnt", Snapshot::copyOfRestored);
    askNew("open", x -> x.open());
    askNew("holds", Snapshot::holdsLeft);
    for (int page = 0; page < 80; page += 79) {
      int asked = page;
      askNew("proves " + page, x -> x.proves(asked, 4321));
    }
  }

  /** Which pages are true again if the book burns and all copies come back: what stands in a copy. */
  private static Object restoredFrom(LedgerKiln kiln, int copy) {
    carryAllBack(kiln);
    int pages = kiln.pages();
    Check.answer(kiln, x -> x.burn(0, pages - 1));
    StringBuilder told = new StringBuilder().append(kiln.restore(copy));
    for (int page = 0; page < pages; page++) {
      told.append(kiln.isTrue(page) ? " true" : " -");
    }
    return told.toString();
  }

  private static void carryAllBack(LedgerKiln kiln) {
    for (int copy = 0; copy < 16; copy++) {
      int carried = copy;
      Check.answer(kiln, x -> x.carry(carried, true));
    }
  }

  /** The number of the next copy, if all that is burnt stands in some copy. */
  private static Object copyOfRestored(LedgerKiln kiln) {
    carryAllBack(kiln);
    for (int copy = 0; copy < 16; copy++) {
      int source = copy;
      Check.answer(kiln, x -> x.restore(source));
    }
    return kiln.copy();
  }

  /** The amounts on the pages of the book, as an alteration tells what stood there. */
  private void askAmounts(int pages) {
    asked = CALLS_OF_ONE;
    for (int page = 0; page < pages; page++) {
      for (int leg = 0; leg < 4; leg++) {
        int ofPage = page;
        int ofLeg = leg;
        ask("amount " + page + " " + leg, x -> x.alter(ofPage, ofLeg, 0));
      }
    }
    asked = CALLS_OF_ONE;
  }

  /** How many holds can be told yet by the first open case. */
  private static Object holdsLeft(LedgerKiln kiln) {
    int lawsuit = 0;
    while (!kiln.isOpen(lawsuit)) {
      lawsuit++;
    }
    for (int told = 0; told < 31; told++) {
      try {
        kiln.hold(lawsuit, 0, 0, 0);
      } catch (IllegalStateException e) {
        return told;
      }
    }
    return 31;
  }
}
