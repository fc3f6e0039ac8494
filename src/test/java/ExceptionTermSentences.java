import java.util.function.Consumer;

/** The sentences of 'Terms' on exceptions, each for every method that they speak of. */
final class ExceptionTermSentences {
  private static final Consumer<LedgerKiln> RICH = ExceptionTermSentences::rich;

  private ExceptionTermSentences() {}

  static void all(Sentences s) {
    s.term("A call that throws an exception changes nothing", ExceptionTermSentences::nothingChanged);
    s.term("the one that is named first in the throws clause is thrown", ExceptionTermSentences::firstOfTwo);
    s.term("A method that takes an account", ExceptionTermSentences::noSuchAccount);
    s.term("throws IndexOutOfBoundsException if there is no such one", ExceptionTermSentences::noSuchPage);
    s.term("a page, a copy or a case throws", ExceptionTermSentences::noSuchCopyOrCase);
    s.term("a copy that was thrown away is not there any more", ExceptionTermSentences::thrownAway);
  }

  /**
   * Pages 0 true, 1 burnt and reversed by 5, 2 altered, 3 struck, 4 true, 5 a reversal; copies 0
   * full and outside, 1 from it, 2 thrown away; cases 0 and 1 with holds, 2 closed; a leg.
   */
  private static void rich(LedgerKiln x) {
    Play.pages(x, 4);
    Play.times(3, () -> x.open());
    x.close(2);
    x.copy();
    Play.page(x, 2, 3, 7, 9);
    x.copyFrom(0);
    x.copy();
    x.throwAway(2);
    x.carry(0, false);
    x.hold(0, 0, 0, 5);
    x.hold(1, 2, 0, 5);
    x.reverse(1);
    x.strike(0, 3);
    x.alter(2, 0, 77);
    x.burn(1, 1);
    x.pass(3);
    x.leg(4, 50);
  }

  private static void nothingChanged() {
    bookRefuses();
    copiesRefuse();
    courtRefuses();
    asked();
    full();
  }

  private static void bookRefuses() {
    Check.refusesIndex("leg", RICH, x -> x.leg(8, 1));
    Check.refusesArgument("leg", RICH, x -> x.leg(0, 0));
    Check.refusesArgument("write", RICH, x -> x.write(-1));
    Check.refusesState("write", RICH, x -> x.write(0));
    Check.refusesIndex("reverse", RICH, x -> x.reverse(6));
    for (int page = 1; page <= 5; page++) {
      int reversed = page;
      if (page != 4) {
        Check.refusesState("reverse " + page, RICH, x -> x.reverse(reversed));
      }
    }
    Check.refusesArgument("pass", RICH, x -> x.pass(0));
    Check.refusesArgument("pass", RICH, x -> x.pass(101));
    Check.refusesIndex("burn", RICH, x -> x.burn(0, 6));
    Check.refusesArgument("burn", RICH, x -> x.burn(4, 0));
    Check.refusesIndex("alter", RICH, x -> x.alter(6, 0, 5));
    Check.refusesArgument("alter, leg", RICH, x -> x.alter(0, 4, 5));
    Check.refusesArgument("alter, amount", RICH, x -> x.alter(0, 0, 10001));
    Check.refusesState("alter, leg", RICH, x -> x.alter(0, 2, 5));
    Check.refusesState("alter, burnt", RICH, x -> x.alter(1, 0, 5));
    Check.refusesState("alter, struck", RICH, x -> x.alter(3, 0, 5));
  }

  private static void copiesRefuse() {
    Check.refusesState("copy", RICH, x -> x.copy());
    Check.refusesIndex("copyFrom", RICH, x -> x.copyFrom(2));
    Check.refusesState("copyFrom", RICH, x -> x.copyFrom(0));
    Check.refusesIndex("carry", RICH, x -> x.carry(3, false));
    Check.refusesIndex("rot, copy", RICH, x -> x.rot(3, 0));
    Check.refusesIndex("rot, page", RICH, x -> x.rot(0, 6));
    Check.refusesIndex("rot, not had", RICH, x -> x.rot(1, 0));
    Check.refusesIndex("throwAway", RICH, x -> x.throwAway(2));
    Check.refusesState("throwAway, base", RICH, x -> x.throwAway(0));
    Check.refusesState("throwAway, held", RICH, x -> x.throwAway(1));
    Check.refusesIndex("restore", RICH, x -> x.restore(2));
    Check.refusesState("restore, outside", RICH, x -> x.restore(0));
    Check.refusesState("restore, base outside", RICH, x -> x.restore(1));
  }

  private static void courtRefuses() {
    Check.refusesIndex("close", RICH, x -> x.close(3));
    Check.refusesState("close", RICH, x -> x.close(2));
    Check.refusesIndex("hold, case", RICH, x -> x.hold(3, 0, 0, 400));
    Check.refusesIndex("hold, account", RICH, x -> x.hold(0, 8, 0, 400));
    Check.refusesArgument("hold", RICH, x -> x.hold(0, 1, 401, 401));
    Check.refusesState("hold", RICH, x -> x.hold(2, 1, 0, 400));
    Check.refusesIndex("strike, case", RICH, x -> x.strike(3, 0));
    Check.refusesIndex("strike, page", RICH, x -> x.strike(0, 6));
    Check.refusesState("strike, closed", RICH, x -> x.strike(2, 0));
    Check.refusesState("strike, held", RICH, x -> x.strike(0, 4));
    Check.refusesState("strike, burnt", RICH, x -> x.strike(0, 1));
    Check.refusesState("strike, altered", RICH, x -> x.strike(0, 2));
    Check.refusesState("strike, struck", RICH, x -> x.strike(0, 3));
  }

  private static void asked() {
    Check.refusesArgument("proves", RICH, x -> x.proves(0, 10000));
    Check.refusesArgument("balance", RICH, x -> x.balance(0, 4));
    Check.refusesArgument("balanceByPages", RICH, x -> x.balanceByPages(0, 4));
    Check.refusesState("balanceByPages", RICH, x -> x.balanceByPages(0, 3));
    Check.refusesArgument("balanceByCopies", RICH, x -> x.balanceByCopies(0, 4));
    Check.refusesState("balanceByCopies", RICH, x -> x.balanceByCopies(0, 3));
  }

  private static void full() {
    Consumer<LedgerKiln> full = x -> {
      Play.fullBook(x);
      Play.until(x, 400);
      Play.times(16, () -> x.copy());
      Play.times(8, () -> x.open());
      Play.times(30, () -> x.hold(0, 0, 0, 400));
      Play.legs(x, 0, 1, 1, -1, 2, 1, 3, -1);
    };
    Check.refusesState("full: leg", full, x -> x.leg(0, 1));
    Check.refusesState("full: write", full, x -> x.write(0));
    Check.refusesState("full: reverse", full, x -> x.reverse(0));
    Check.refusesState("full: pass", full, x -> x.pass(1));
    Check.refusesState("full: copy", full, x -> x.copy());
    Check.refusesState("full: copyFrom", full, x -> x.copyFrom(0));
    Check.refusesState("full: open", full, x -> x.open());
    Check.refusesState("full: hold", full, x -> x.hold(1, 0, 0, 400));
  }

  private static void firstOfTwo() {
    Consumer<LedgerKiln> four = x -> Play.times(4, () -> x.leg(2, 1));
    Check.refusesIndex("leg: account, amount and draft", four, x -> x.leg(8, 0));
    Check.refusesIndex("leg: account and draft", four, x -> x.leg(8, 1));
    Check.refusesArgument("leg: amount and draft", four, x -> x.leg(0, 10001));
    Check.refusesArgument("write: text and draft", RICH, x -> x.write(10000));
    Check.refusesArgument("write: text and 80 pages", Play::fullBook, x -> x.write(-1));
    Check.refusesIndex("reverse: page and 80 pages", Play::fullBook, x -> x.reverse(80));
    Consumer<LedgerKiln> last = x -> Play.until(x, 400);
    Check.refusesArgument("pass: 0 days on the last one", last, x -> x.pass(0));
    Check.refusesArgument("pass: too many days on the last one", last, x -> x.pass(101));
    Check.refusesIndex("burn: no first one, last ahead", RICH, x -> x.burn(6, 5));
    Check.refusesIndex("burn: no last one, ahead", RICH, x -> x.burn(0, -1));
    Check.refusesIndex("burn: neither one, last ahead", RICH, x -> x.burn(7, 6));
    Check.refusesIndex("alter: page, leg and amount", RICH, x -> x.alter(-1, 4, 10001));
    Check.refusesArgument("alter: leg of a burnt page", RICH, x -> x.alter(1, 4, 0));
    Check.refusesArgument("alter: amount on a burnt page", RICH, x -> x.alter(1, 0, -10001));
    Check.refusesArgument("alter: amount on a leg that it does not have", RICH, x -> x.alter(0, 3, 10001));
    Check.refusesIndex("copyFrom: base and burnt", RICH, x -> x.copyFrom(2));
    Check.refusesIndex("copyFrom: base and 16", x -> Play.times(16, () -> x.copy()), x -> x.copyFrom(16));
    Check.refusesIndex("hold: account and days", RICH, x -> x.hold(0, -1, 1, 0));
    Check.refusesIndex("hold: account and closed", RICH, x -> x.hold(2, 8, 0, 0));
    Check.refusesIndex("hold: case and days", RICH, x -> x.hold(3, 0, -1, 0));
    Check.refusesArgument("hold: days and closed", RICH, x -> x.hold(2, 0, 0, 401));
    Consumer<LedgerKiln> holds = x -> { x.open(); Play.times(30, () -> x.hold(0, 0, 0, 0)); };
    Check.refusesIndex("hold: account and 30 holds", holds, x -> x.hold(0, 8, 0, 0));
    Check.refusesArgument("hold: days and 30 holds", holds, x -> x.hold(0, 0, -1, 0));
    Check.refusesIndex("strike: page and closed", RICH, x -> x.strike(2, 6));
    Check.refusesIndex("strike: case and a burnt page", RICH, x -> x.strike(3, 1));
    Check.refusesIndex("proves: page and text", RICH, x -> x.proves(6, 10000));
    Check.refusesIndex("balance: account and day", RICH, x -> x.balance(8, 4));
    Check.refusesIndex("balanceByPages: account and day", RICH, x -> x.balanceByPages(8, 4));
    Check.refusesIndex("balanceByPages: account and burnt", RICH, x -> x.balanceByPages(8, 3));
    Check.refusesArgument("balanceByPages: day and burnt", RICH, x -> x.balanceByPages(0, -1));
    Check.refusesIndex("balanceByCopies: account and day", RICH, x -> x.balanceByCopies(8, 4));
    Check.refusesIndex("balanceByCopies: account and nowhere", RICH, x -> x.balanceByCopies(-1, 3));
    Check.refusesArgument("balanceByCopies: day and nowhere", RICH, x -> x.balanceByCopies(0, 4));
  }

  private static void noSuchAccount() {
    Edges.noSuch("leg", 8, RICH, (x, account) -> x.leg(account, 1));
    Edges.noSuch("hold", 8, RICH, (x, account) -> x.hold(0, account, 0, 0));
    Edges.noSuch("proven", 8, RICH, (x, account) -> x.proven(3, account));
    Edges.noSuch("balance", 8, RICH, (x, account) -> x.balance(account, 0));
    Edges.noSuch("balanceByPages", 8, RICH, (x, account) -> x.balanceByPages(account, 0));
    Edges.noSuch("balanceByCopies", 8, RICH, (x, account) -> x.balanceByCopies(account, 0));
  }

  private static void noSuchPage() {
    Edges.noSuch("reverse", 6, RICH, (x, page) -> x.reverse(page));
    Edges.noSuch("burn, first", 6, RICH, (x, page) -> x.burn(page, 5));
    Edges.noSuch("burn, last", 6, RICH, (x, page) -> x.burn(0, page));
    Edges.noSuch("alter", 6, RICH, (x, page) -> x.alter(page, 0, 5));
    Edges.noSuch("rot", 6, RICH, (x, page) -> x.rot(0, page));
    Edges.noSuch("strike", 6, RICH, (x, page) -> x.strike(0, page));
    Edges.noSuch("state", 6, RICH, (x, page) -> x.state(page));
    Edges.noSuch("isTrue", 6, RICH, (x, page) -> x.isTrue(page));
    Edges.noSuch("text", 6, RICH, (x, page) -> x.text(page));
    Edges.noSuch("mark", 6, RICH, (x, page) -> x.mark(page));
    Edges.noSuch("reversal", 6, RICH, (x, page) -> x.reversal(page));
    Edges.noSuch("proves", 6, RICH, (x, page) -> x.proves(page, 0));
    Edges.noSuch("proven", 6, RICH, (x, page) -> x.proven(page, 0));
    Edges.noSuch("stands", 6, RICH, (x, page) -> x.stands(0, page));
    Edges.noSuch("copiesOf", 6, RICH, (x, page) -> x.copiesOf(page));
    Edges.noSuch("holders", 6, RICH, (x, page) -> x.holders(page));
    Edges.noSuch("canStrike", 6, RICH, (x, page) -> x.canStrike(0, page));
  }

  private static void noSuchCopyOrCase() {
    Edges.noSuch("copyFrom", 3, RICH, (x, copy) -> x.copyFrom(copy));
    Edges.noSuch("carry", 3, RICH, (x, copy) -> x.carry(copy, true));
    Edges.noSuch("rot", 3, RICH, (x, copy) -> x.rot(copy, 4));
    Edges.noSuch("throwAway", 3, RICH, (x, copy) -> x.throwAway(copy));
    Edges.noSuch("restore", 3, RICH, (x, copy) -> x.restore(copy));
    Edges.noSuch("size", 3, RICH, (x, copy) -> x.size(copy));
    Edges.noSuch("isInVault", 3, RICH, (x, copy) -> x.isInVault(copy));
    Edges.noSuch("stands", 3, RICH, (x, copy) -> x.stands(copy, 4));
    Edges.noSuch("canRestore", 3, RICH, (x, copy) -> x.canRestore(copy));
    Edges.noSuch("audit", 3, RICH, (x, copy) -> x.audit(copy));
    Edges.noSuch("close", 3, RICH, (x, lawsuit) -> x.close(lawsuit));
    Edges.noSuch("hold", 3, RICH, (x, lawsuit) -> x.hold(lawsuit, 0, 0, 0));
    Edges.noSuch("strike", 3, RICH, (x, lawsuit) -> x.strike(lawsuit, 0));
    Edges.noSuch("isOpen", 3, RICH, (x, lawsuit) -> x.isOpen(lawsuit));
    Edges.noSuch("canStrike", 3, RICH, (x, lawsuit) -> x.canStrike(lawsuit, 0));
    Check.refusesIndex("a number of 32 bits and more is no case 0", RICH, x -> x.canStrike(32, 0));
  }

  private static void thrownAway() {
    Check.refusesIndex("copyFrom", RICH, x -> x.copyFrom(2));
    Check.refusesIndex("carry outside", RICH, x -> x.carry(2, false));
    Check.refusesIndex("carry back", RICH, x -> x.carry(2, true));
    Check.refusesIndex("rot", RICH, x -> x.rot(2, 0));
    Check.refusesIndex("throwAway", RICH, x -> x.throwAway(2));
    Check.refusesIndex("restore", RICH, x -> x.restore(2));
    Check.refusesIndex("size", RICH, x -> x.size(2));
    Check.refusesIndex("isInVault", RICH, x -> x.isInVault(2));
    Check.refusesIndex("stands", RICH, x -> x.stands(2, 0));
    Check.refusesIndex("canRestore", RICH, x -> x.canRestore(2));
    Check.refusesIndex("audit", RICH, x -> x.audit(2));
    Consumer<LedgerKiln> gone = x -> { Play.pages(x, 1); x.copy(); x.throwAway(0); x.burn(0, 0); };
    LedgerKiln x = Check.after(gone);
    Check.due("copies", x.copies(), 0);
    Check.due("copiesOf", x.copiesOf(0), 0);
    Check.due("lost", x.lost(), 1);
    Check.due("balanceByCopies", Check.answer(x, y -> y.balanceByCopies(0, 0)), "IllegalStateException");
    Check.due("strike, it lay outside", Check.answerAfter(y -> {
      Play.pages(y, 1);
      y.copy();
      y.carry(0, false);
      y.throwAway(0);
    }, y -> y.strike(y.open(), 0)), 0);
  }
}
