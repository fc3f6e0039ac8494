import java.util.function.Consumer;

/** Promises 15 to 18 and 40 to 42: the court. */
public final class CourtTest {
  private CourtTest() {}

  public static void main(String[] args) {
    promise15Open();
    promise16Close();
    promise17Hold();
    promise18Strike();
    promise40IsOpen();
    promise41Holders();
    promise42CanStrike();
    Check.end("CourtTest");
  }

  /** Page 0 on day 0 for 0 and 1, page 1 on day 5 for 2 and 3, page 2 on day 5 for 0 and 3. */
  private static void threePages(LedgerKiln x) {
    Play.page(x, 0, 1, 10, 1);
    x.pass(5);
    Play.page(x, 2, 3, 20, 2);
    Play.page(x, 0, 3, 30, 3);
  }

  private static void promise15Open() {
    LedgerKiln x = new LedgerKiln();
    for (int lawsuit = 0; lawsuit < 8; lawsuit++) {
      Check.due("open", x.open(), lawsuit);
    }
    Check.due("open: the last one", x.isOpen(7), true);
    Consumer<LedgerKiln> all = y -> Play.times(8, () -> y.open());
    Check.refusesState("open, 8 were opened", all, y -> y.open());
    Check.refusesState("open, 8 were opened, one closed", y -> { all.accept(y); y.close(2); }, y -> y.open());
  }

  private static void promise16Close() {
    LedgerKiln x = Check.after(CourtTest::threePages);
    x.open();
    x.open();
    x.open();
    x.hold(0, 0, 0, 400);
    x.hold(0, 1, 0, 400);
    x.hold(1, 3, 5, 5);
    Check.due("close, no holds", x.close(2), 0);
    x.strike(0, 0);
    x.burn(2, 2);
    Check.due("close, one page is held by another case too", x.close(0), 1);
    Check.due("close: closed", x.isOpen(0), false);
    Check.due("close: holds no more", x.holders(2), 2);
    Check.due("close, the burnt page too", x.close(1), 2);
    Check.due("close: held by none", x.holders(1) + x.holders(2), 0);

    Consumer<LedgerKiln> one = y -> { threePages(y); y.open(); y.open(); y.hold(1, 0, 0, 9); y.close(1); };
    Check.refusesIndex("close -1", one, y -> y.close(-1));
    Check.refusesIndex("close 2", one, y -> y.close(2));
    Check.refusesState("close twice", one, y -> y.close(1));
  }

  private static void promise17Hold() {
    LedgerKiln x = Check.after(CourtTest::threePages);
    x.open();
    x.open();
    Check.due("hold, no page", x.hold(0, 7, 0, 400), 0);
    Check.due("hold, days ahead of the page", x.hold(0, 2, 0, 4), 0);
    Check.due("hold, days behind the page", x.hold(0, 2, 6, 400), 0);
    Check.due("hold, last day", x.hold(0, 2, 0, 5), 1);
    Check.due("hold, first day", x.hold(0, 3, 5, 5), 2);
    Check.due("hold, the other case", x.hold(1, 0, 0, 0), 1);
    Check.due("hold, pages of all its spans", x.hold(0, 1, 0, 0), 3);
    Check.due("hold the same", x.hold(0, 1, 0, 0), 3);
    Check.due("hold, accounts to 7 and days to 400", x.hold(1, 7, 400, 400), 1);
    x.alter(0, 0, 0);
    x.burn(1, 2);
    Check.due("hold, altered and burnt pages too", x.hold(1, 0, 0, 400), 2);
    Check.due("hold, a page written later", Play.page(x, 0, 5, 1, 1), 3);
    Check.due("hold, a page written later is held", x.holders(3), 2);
    LedgerKiln struck = Check.after(y -> { threePages(y); y.strike(y.open(), 0); });
    Check.due("hold, struck pages too", struck.hold(0, 0, 0, 400), 2);

    Consumer<LedgerKiln> closed = y -> { threePages(y); y.open(); y.open(); y.close(1); };
    Consumer<LedgerKiln> full = y -> { threePages(y); y.open(); Play.times(30, () -> y.hold(0, 7, 0, 0)); };
    Check.refusesIndex("hold, case -1", closed, y -> y.hold(-1, 0, 0, 0));
    Check.refusesIndex("hold, case 2", closed, y -> y.hold(2, 0, 0, 0));
    Check.refusesIndex("hold, account -1", closed, y -> y.hold(0, -1, 0, 0));
    Check.refusesIndex("hold, account 8", closed, y -> y.hold(0, 8, 0, 0));
    Check.refusesArgument("hold, from -1", closed, y -> y.hold(0, 0, -1, 0));
    Check.refusesArgument("hold, to 401", closed, y -> y.hold(0, 0, 0, 401));
    Check.refusesArgument("hold, from 401", closed, y -> y.hold(0, 0, 401, 401));
    Check.refusesArgument("hold, to ahead of from", closed, y -> y.hold(0, 0, 3, 2));
    Check.refusesState("hold, closed", closed, y -> y.hold(1, 0, 0, 0));
    Check.refusesState("hold, 30 were told", full, y -> y.hold(0, 0, 0, 400));
    Check.refusesState("hold, 30 were told, another case", y -> { full.accept(y); y.open(); }, y -> y.hold(1, 0, 0, 400));
    Check.refusesState("hold, 30 were told, the case closed", y -> { full.accept(y); y.open(); y.close(0); }, y -> y.hold(1, 0, 0, 400));
    Check.refusesIndex("hold, account ahead of days", closed, y -> y.hold(1, 8, 1, 0));
    Check.refusesArgument("hold, days ahead of state", closed, y -> y.hold(1, 0, 1, 0));
  }

  private static void promise18Strike() {
    LedgerKiln x = Check.after(CourtTest::threePages);
    Play.times(5, () -> x.copy());
    x.throwAway(4);
    x.open();
    x.open();
    x.hold(0, 0, 0, 400);
    x.carry(1, false);
    x.carry(2, false);
    x.carry(3, false);
    x.rot(2, 0);
    Check.due("strike, stands in two copies outside", x.strike(0, 0), 2);
    Check.due("strike: state", x.state(0), 2);
    Check.due("strike: not true", x.isTrue(0), false);
    Check.due("strike: not in the vault", x.stands(0, 0), false);
    Check.due("strike: outside still", x.stands(1, 0) && x.stands(3, 0), true);
    Check.due("strike: other pages stay", x.copiesOf(1), 4);
    Check.due("strike: sums", x.proven(0, 1), -10);
    Check.due("strike: balance", x.balance(0, 5), 40);
    Check.due("strike without a hold", x.strike(1, 1), 3);
    LedgerKiln freed = Check.after(y -> { threePages(y); y.open(); y.open(); y.hold(1, 0, 0, 9); y.close(1); });
    Check.due("strike, the other case is closed", freed.strike(0, 2), 0);

    Consumer<LedgerKiln> two = y -> {
      threePages(y);
      y.open();
      y.open();
      y.open();
      y.close(2);
      y.hold(1, 0, 5, 5);
      y.hold(0, 0, 5, 5);
      y.copy();
    };
    Check.refusesIndex("strike, case -1", two, y -> y.strike(-1, 0));
    Check.refusesIndex("strike, case 3", two, y -> y.strike(3, 0));
    Check.refusesIndex("strike, page -1", two, y -> y.strike(0, -1));
    Check.refusesIndex("strike, page 3", two, y -> y.strike(0, 3));
    Check.refusesState("strike, closed", two, y -> y.strike(2, 0));
    Check.refusesState("strike, another case holds it", two, y -> y.strike(0, 2));
    Check.refusesState("strike, burnt", y -> { two.accept(y); y.burn(0, 0); }, y -> y.strike(0, 0));
    Check.refusesState("strike, altered", y -> { two.accept(y); y.alter(0, 0, 9); }, y -> y.strike(0, 0));
    Check.refusesState("strike twice", y -> { two.accept(y); y.strike(0, 0); }, y -> y.strike(0, 0));
    Check.refusesIndex("strike, page ahead of state", two, y -> y.strike(2, 3));
  }

  private static void promise40IsOpen() {
    LedgerKiln x = new LedgerKiln();
    x.open();
    x.open();
    Check.due("isOpen", x.isOpen(0), true);
    x.close(0);
    Check.due("isOpen, closed", x.isOpen(0), false);
    Check.due("isOpen, the other", x.isOpen(1), true);
    Check.refusesIndex("isOpen -1", y -> y.open(), y -> y.isOpen(-1));
    Check.refusesIndex("isOpen 1", y -> y.open(), y -> y.isOpen(1));
    Check.refusesIndex("isOpen 8", y -> Play.times(8, () -> y.open()), y -> y.isOpen(8));
  }

  private static void promise41Holders() {
    LedgerKiln x = Check.after(CourtTest::threePages);
    Play.times(8, () -> x.open());
    x.hold(7, 0, 0, 400);
    x.hold(2, 3, 5, 5);
    x.hold(0, 1, 1, 400);
    Check.due("holders, one", x.holders(0), 128);
    Check.due("holders, another one", x.holders(1), 4);
    Check.due("holders, two", x.holders(2), 132);
    x.strike(7, 0);
    Check.due("holders, struck", x.holders(0), 128);
    x.burn(1, 2);
    Check.due("holders, burnt", x.holders(2), 132);
    x.close(7);
    Check.due("holders, one closed", x.holders(2), 4);
    Check.due("holders, none", x.holders(0), 0);
    LedgerKiln altered = Check.after(y -> { threePages(y); y.alter(0, 0, 0); y.hold(y.open(), 0, 0, 0); });
    Check.due("holders, legs as they were written", altered.holders(0), 1);
    Check.refusesIndex("holders -1", CourtTest::threePages, y -> y.holders(-1));
    Check.refusesIndex("holders 3", CourtTest::threePages, y -> y.holders(3));
  }

  private static void promise42CanStrike() {
    LedgerKiln x = Check.after(CourtTest::threePages);
    x.open();
    x.open();
    Check.due("canStrike, held by none", x.canStrike(0, 0), true);
    x.hold(0, 0, 0, 0);
    Check.due("canStrike, held by itself", x.canStrike(0, 0), true);
    Check.due("canStrike, held by another", x.canStrike(1, 0), false);
    x.alter(1, 1, 0);
    Check.due("canStrike, altered", x.canStrike(0, 1), false);
    x.burn(2, 2);
    Check.due("canStrike, burnt", x.canStrike(0, 2), false);
    Check.due("canStrike changes nothing", x.state(0), 0);
    x.strike(0, 0);
    Check.due("canStrike, struck", x.canStrike(0, 0), false);
    LedgerKiln closed = Check.after(y -> { threePages(y); y.open(); y.close(0); });
    Check.due("canStrike, closed", closed.canStrike(0, 0), false);
    Consumer<LedgerKiln> one = y -> { threePages(y); y.open(); };
    Check.refusesIndex("canStrike, case -1", one, y -> y.canStrike(-1, 0));
    Check.refusesIndex("canStrike, case 1", one, y -> y.canStrike(1, 0));
    Check.refusesIndex("canStrike, page -1", one, y -> y.canStrike(0, -1));
    Check.refusesIndex("canStrike, page 3", one, y -> y.canStrike(0, 3));
  }
}
