import java.util.function.Consumer;

/** Promises 19 to 30: pages as they are, and balances. */
public final class PagesTest {
  private PagesTest() {}

  public static void main(String[] args) {
    promise19Day();
    promise20Pages();
    promise21State();
    promise22IsTrue();
    promise23Text();
    promise24Mark();
    promise25Reversal();
    promise26Proves();
    promise27Proven();
    promise28Balance();
    promise29BalanceByPages();
    promise30BalanceByCopies();
    Check.end("PagesTest");
  }

  /** Pages 0 stands, 1 burnt, 2 struck, 3 altered; days 0, 0, 3, 3; text 11, 12, 13, 14. */
  private static void fourKinds(LedgerKiln x) {
    Play.page(x, 0, 1, 10, 11);
    Play.page(x, 0, 2, 20, 12);
    x.pass(3);
    Play.page(x, 0, 3, 40, 13);
    Play.page(x, 0, 4, 80, 14);
    x.burn(1, 1);
    x.strike(x.open(), 2);
    x.alter(3, 0, 81);
  }

  private static void promise19Day() {
    LedgerKiln x = new LedgerKiln();
    Check.due("day", x.day(), 0);
    x.pass(7);
    Play.page(x, 0, 1, 1, 1);
    Check.due("day, later", x.day(), 7);
    x.pass(2);
    Check.due("day, later still", x.day(), 9);
  }

  private static void promise20Pages() {
    LedgerKiln x = Check.after(PagesTest::fourKinds);
    Check.due("pages, of all kinds", x.pages(), 4);
    x.reverse(0);
    Check.due("pages, reversals too", x.pages(), 5);
  }

  private static void promise21State() {
    LedgerKiln x = Check.after(PagesTest::fourKinds);
    Check.due("state: stands", x.state(0), 0);
    Check.due("state: burnt", x.state(1), 1);
    Check.due("state: struck", x.state(2), 2);
    Check.due("state: altered, stands", x.state(3), 0);
    Check.refusesIndex("state -1", PagesTest::fourKinds, y -> y.state(-1));
    Check.refusesIndex("state 4", PagesTest::fourKinds, y -> y.state(4));
    Check.refusesIndex("state 80", Play::fullBook, y -> y.state(80));
  }

  private static void promise22IsTrue() {
    LedgerKiln x = Check.after(PagesTest::fourKinds);
    Check.due("isTrue: stands", x.isTrue(0), true);
    Check.due("isTrue: burnt", x.isTrue(1), false);
    Check.due("isTrue: struck", x.isTrue(2), false);
    Check.due("isTrue: altered", x.isTrue(3), false);
    x.alter(0, 1, -11);
    x.alter(0, 0, 11);
    Check.due("isTrue: altered, 0 together", x.isTrue(0), false);
    Check.refusesIndex("isTrue -1", PagesTest::fourKinds, y -> y.isTrue(-1));
    Check.refusesIndex("isTrue 4", PagesTest::fourKinds, y -> y.isTrue(4));
    for (int leg = 0; leg < 4; leg++) {
      LedgerKiln four = Check.after(y -> { y.leg(0, 1); y.leg(0, 2); y.leg(0, 3); y.leg(0, -6); y.write(0); });
      four.alter(0, leg, 9);
      Check.due("isTrue: altered in each leg", four.isTrue(0), false);
    }
  }

  private static void promise23Text() {
    LedgerKiln x = Check.after(PagesTest::fourKinds);
    Check.due("text: stands", x.text(0), 11);
    Check.due("text: burnt", x.text(1), -1);
    Check.due("text: struck", x.text(2), -1);
    Check.due("text: altered", x.text(3), 14);
    LedgerKiln back = Check.after(y -> { Play.page(y, 0, 1, 1, 9999); y.copy(); y.burn(0, 0); y.restore(0); });
    Check.due("text: restored", back.text(0), 9999);
    Check.refusesIndex("text -1", PagesTest::fourKinds, y -> y.text(-1));
    Check.refusesIndex("text 4", PagesTest::fourKinds, y -> y.text(4));
  }

  private static void promise24Mark() {
    LedgerKiln x = Check.after(PagesTest::fourKinds);
    Check.due("mark: stands", x.mark(0), Play.markOf(0, 11, 0, 10, 1, -10));
    Check.due("mark: burnt", x.mark(1), Play.markOf(0, 12, 0, 20, 2, -20));
    Check.due("mark: struck", x.mark(2), Play.markOf(3, 13, 0, 40, 3, -40));
    Check.due("mark: altered", x.mark(3), Play.markOf(3, 14, 0, 80, 4, -80));
    x.pass(100);
    x.leg(7, -10000);
    x.leg(6, 10000);
    x.leg(7, 10000);
    x.leg(7, -10000);
    x.write(9999);
    Check.due("mark: four legs", x.mark(4), Play.markOf(103, 9999, 7, -10000, 6, 10000, 7, 10000, 7, -10000));
    Check.refusesIndex("mark -1", PagesTest::fourKinds, y -> y.mark(-1));
    Check.refusesIndex("mark 4", PagesTest::fourKinds, y -> y.mark(4));
  }

  private static void promise25Reversal() {
    LedgerKiln x = Check.after(PagesTest::fourKinds);
    Check.due("reversal: none", x.reversal(0), -1);
    Check.due("reversal: none, struck", x.reversal(2), -1);
    x.reverse(0);
    Check.due("reversal", x.reversal(0), 4);
    Check.due("reversal of a reversal", x.reversal(4), -1);
    x.burn(0, 0);
    x.strike(0, 4);
    Check.due("reversal, burnt and struck", x.reversal(0), 4);
    Check.refusesIndex("reversal -1", PagesTest::fourKinds, y -> y.reversal(-1));
    Check.refusesIndex("reversal 4", PagesTest::fourKinds, y -> y.reversal(4));
  }

  private static void promise26Proves() {
    LedgerKiln x = Check.after(PagesTest::fourKinds);
    Check.due("proves, empty draft", x.proves(0, 11), false);
    x.leg(0, 40);
    Check.due("proves, too few legs", x.proves(2, 13), false);
    x.leg(3, -40);
    Check.due("proves, a struck page with its day", x.proves(2, 13), true);
    Check.due("proves, another text", x.proves(2, 14), false);
    Check.due("proves, another page", x.proves(0, 13), false);
    Check.due("proves: the draft stays", x.wipe(), 2);
    x.leg(0, 20);
    x.leg(2, -20);
    Check.due("proves, a burnt page", x.proves(1, 12), true);
    x.leg(4, 1);
    Check.due("proves, one leg more", x.proves(1, 12), false);
    x.wipe();
    x.leg(2, -20);
    x.leg(0, 20);
    Check.due("proves, another order", x.proves(1, 12), false);
    x.wipe();
    x.leg(0, 81);
    x.leg(4, -80);
    Check.due("proves, what an altered page tells", x.proves(3, 14), false);

    Check.refusesIndex("proves, page -1", PagesTest::fourKinds, y -> y.proves(-1, 0));
    Check.refusesIndex("proves, page 4", PagesTest::fourKinds, y -> y.proves(4, 0));
    Check.refusesArgument("proves, text -1", PagesTest::fourKinds, y -> y.proves(0, -1));
    Check.refusesArgument("proves, text 10000", PagesTest::fourKinds, y -> y.proves(0, 10000));
    Check.refusesIndex("proves, page ahead of text", PagesTest::fourKinds, y -> y.proves(4, -1));
  }

  private static void promise27Proven() {
    LedgerKiln x = Check.after(PagesTest::fourKinds);
    Check.due("proven", x.proven(2, 0), 40);
    Check.due("proven, the other account", x.proven(2, 3), -40);
    Check.due("proven, no leg for it", x.proven(2, 7), 0);
    Check.due("proven: stands", x.proven(0, 0), 0);
    Check.due("proven: burnt", x.proven(1, 0), 0);
    Check.due("proven: altered", x.proven(3, 0), 0);
    LedgerKiln sums = Check.after(y -> {
      y.leg(5, 10);
      y.leg(6, -25);
      y.leg(5, 5);
      y.leg(6, 10);
      y.write(0);
      y.strike(y.open(), 0);
    });
    Check.due("proven, two legs for it", sums.proven(0, 5), 15);
    Check.due("proven, two legs of both signs", sums.proven(0, 6), -15);
    Check.refusesIndex("proven, page -1", PagesTest::fourKinds, y -> y.proven(-1, 0));
    Check.refusesIndex("proven, page 4", PagesTest::fourKinds, y -> y.proven(4, 0));
    Check.refusesIndex("proven, account -1", PagesTest::fourKinds, y -> y.proven(2, -1));
    Check.refusesIndex("proven, account 8", PagesTest::fourKinds, y -> y.proven(0, 8));
  }

  private static void promise28Balance() {
    LedgerKiln x = Check.after(PagesTest::fourKinds);
    Check.due("balance, first day", x.balance(0, 0), 30);
    Check.due("balance, no page on that day", x.balance(0, 2), 30);
    Check.due("balance, burnt, struck and altered ones too", x.balance(0, 3), 150);
    Check.due("balance, below 0", x.balance(3, 3), -40);
    Check.due("balance, no legs", x.balance(7, 3), 0);
    x.pass(1);
    Check.due("balance, day of now", x.balance(0, 4), 150);
    LedgerKiln late = Check.after(y -> { y.pass(1); Play.page(y, 0, 1, 10, 1); });
    Check.due("balance, ahead of all pages", late.balance(0, 0), 0);
    Check.due("balance by pages, ahead of all pages", late.balanceByPages(0, 0), 0);
    Check.due("balance by copies, ahead of all pages", late.balanceByCopies(0, 0), 0);
    Check.refusesIndex("balance, account -1", PagesTest::fourKinds, y -> y.balance(-1, 0));
    Check.refusesIndex("balance, account 8", PagesTest::fourKinds, y -> y.balance(8, 0));
    Check.refusesArgument("balance, day -1", PagesTest::fourKinds, y -> y.balance(0, -1));
    Check.refusesArgument("balance, day behind now", PagesTest::fourKinds, y -> y.balance(0, 4));
    Check.refusesIndex("balance, account ahead of day", PagesTest::fourKinds, y -> y.balance(8, 4));
    LedgerKiln most = Check.after(PagesTest::mostOfAll);
    Check.due("balance, the most", most.balance(0, 0), 80 * 20000);
    Check.due("balance by pages, the most", most.balanceByPages(1, 0), -80 * 20000);
  }

  /** 80 pages that give the account 0 all that they can, in 400 calls. */
  private static void mostOfAll(LedgerKiln x) {
    for (int i = 0; i < 80; i++) {
      x.leg(0, 10000);
      x.leg(0, 10000);
      x.leg(1, -10000);
      x.leg(1, -10000);
      x.write(i);
    }
  }

  private static void promise29BalanceByPages() {
    LedgerKiln x = Check.after(y -> { Play.page(y, 0, 5, 1, 0); y.pass(1); fourKinds(y); });
    Check.due("balanceByPages, ahead of what is burnt", x.balanceByPages(0, 0), 1);
    Check.refusesState("balanceByPages, burnt on that day", PagesTest::fourKinds, y -> y.balanceByPages(0, 0));
    Check.refusesState("balanceByPages, burnt, not its account", PagesTest::fourKinds, y -> y.balanceByPages(7, 3));
    LedgerKiln none = Check.after(y -> {
      Play.page(y, 0, 1, 10, 1);
      y.pass(3);
      Play.page(y, 0, 2, 20, 2);
      Play.page(y, 0, 3, 40, 3);
      y.strike(y.open(), 0);
      y.alter(1, 0, 25);
    });
    Check.due("balanceByPages, from the proof", none.balanceByPages(0, 2), 10);
    Check.due("balanceByPages, altered", none.balanceByPages(0, 3), 75);
    Check.due("balanceByPages, the leg not altered", none.balanceByPages(2, 3), -20);
    none.alter(1, 0, 20);
    Check.due("balanceByPages, altered back", none.balanceByPages(0, 3), 70);
    Check.refusesIndex("balanceByPages, account -1", PagesTest::fourKinds, y -> y.balanceByPages(-1, 0));
    Check.refusesIndex("balanceByPages, account 8", PagesTest::fourKinds, y -> y.balanceByPages(8, 4));
    Check.refusesArgument("balanceByPages, day -1", PagesTest::fourKinds, y -> y.balanceByPages(0, -1));
    Check.refusesArgument("balanceByPages, day ahead of state", PagesTest::fourKinds, y -> y.balanceByPages(0, 4));
  }

  private static void promise30BalanceByCopies() {
    Consumer<LedgerKiln> copied = y -> {
      Play.page(y, 0, 1, 10, 1);
      Play.page(y, 0, 2, 20, 2);
      y.copy();
      y.copy();
      y.pass(3);
      Play.page(y, 0, 3, 40, 3);
    };
    LedgerKiln x = Check.after(copied);
    Check.due("balanceByCopies, copies and book", x.balanceByCopies(0, 3), 70);
    x.strike(x.open(), 0);
    Check.due("balanceByCopies, from the proof", x.balanceByCopies(1, 3), -10);
    x.burn(1, 1);
    Check.due("balanceByCopies, burnt, in copies", x.balanceByCopies(0, 3), 70);
    x.rot(0, 1);
    Check.due("balanceByCopies, burnt, in one copy", x.balanceByCopies(0, 0), 30);
    x.alter(2, 0, 41);
    Check.due("balanceByCopies, ahead of what is altered", x.balanceByCopies(0, 2), 30);
    Check.due("balanceByCopies, altered, in no copy", Check.answer(x, y -> y.balanceByCopies(5, 3)), "IllegalStateException");
    x.alter(2, 0, 40);
    Check.due("balanceByCopies, not altered any more", x.balanceByCopies(0, 3), 70);
    LedgerKiln first = Check.after(y -> { copied.accept(y); y.burn(0, 1); y.carry(1, false); });
    Check.due("balanceByCopies, in the first copy alone", first.balanceByCopies(0, 3), 70);
    LedgerKiln altered = Check.after(copied);
    altered.alter(0, 0, 99);
    Check.due("balanceByCopies, altered, in copies", altered.balanceByCopies(0, 3), 70);

    Consumer<LedgerKiln> burnt = y -> { copied.accept(y); y.burn(0, 0); };
    Check.refusesState("balanceByCopies, copies outside",
        y -> { burnt.accept(y); y.carry(0, false); y.carry(1, false); }, y -> y.balanceByCopies(0, 0));
    Check.refusesState("balanceByCopies, copies thrown away",
        y -> { burnt.accept(y); y.throwAway(0); y.throwAway(1); }, y -> y.balanceByCopies(0, 0));
    Check.refusesState("balanceByCopies, not true in the copy",
        y -> { Play.pages(y, 1); y.alter(0, 0, 7); y.copy(); y.burn(0, 0); }, y -> y.balanceByCopies(0, 0));
    LedgerKiln untrue = Check.after(y -> { Play.pages(y, 1); y.alter(0, 0, 7); y.copy(); y.alter(0, 0, 1); });
    Check.due("balanceByCopies, not true in the copy, true in the book", untrue.balanceByCopies(0, 0), 1);
    Check.refusesIndex("balanceByCopies, account -1", burnt, y -> y.balanceByCopies(-1, 0));
    Check.refusesIndex("balanceByCopies, account 8", burnt, y -> y.balanceByCopies(8, 4));
    Check.refusesArgument("balanceByCopies, day -1", burnt, y -> y.balanceByCopies(0, -1));
    Check.refusesArgument("balanceByCopies, day behind now", burnt, y -> y.balanceByCopies(0, 4));
  }
}
