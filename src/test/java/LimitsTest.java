/** An object with all that it can have: 80 pages, 16 copies, 8 cases, 30 holds, the day 400. */
public final class LimitsTest {
  private LimitsTest() {}

  public static void main(String[] args) {
    callsOfTheBook();
    callsOfCopies();
    callsOfTheCourt();
    refusals();
    Check.end("LimitsTest");
  }

  /** 218 calls; the holds of the case 7 are for the account 1 on the day 400, on pages 40 to 79. */
  private static void full(LedgerKiln x) {
    halfABook(x);
    Play.times(4, () -> x.pass(100));
    halfABook(x);
    Play.times(8, () -> x.copy());
    Play.times(8, () -> x.copyFrom(0));
    Play.times(8, () -> x.open());
    Play.times(30, () -> x.hold(7, 1, 400, 400));
  }

  private static void halfABook(LedgerKiln x) {
    for (int i = 0; i < 20; i++) {
      x.reverse(Play.page(x, 0, 1, i + 1, i));
    }
  }

  private static LedgerKiln made() {
    return Check.after(LimitsTest::full);
  }

  private static void callsOfTheBook() {
    LedgerKiln x = made();
    Check.due("pages", x.pages(), 80);
    Check.due("alter the last one", x.alter(79, 1, 5), 20);
    Check.due("burn all", x.burn(0, 79), 80);
    Check.due("gaps", x.gaps(), 80);
    Check.due("lost", x.lost(), 0);
    Check.due("balance", x.balance(0, 400), 0);
    Check.due("balanceByCopies", x.balanceByCopies(0, 400), 0);
    Check.due("audit", x.audit(0), 80);
    Check.due("restore", x.restore(7), 80);
    Check.due("restored", x.balanceByPages(1, 400), 0);
    Check.due("restore again", x.restore(7), 0);
    Check.due("restored, the last one", x.isTrue(79), true);
  }

  private static void callsOfCopies() {
    LedgerKiln x = made();
    Check.due("copies", x.copies(), 16);
    Check.due("size, full", x.size(7), 80);
    Check.due("size, partial", x.size(15), 0);
    Check.due("copiesOf", x.copiesOf(79), 8);
    Check.due("carry outside", x.carry(7, false), 0);
    Check.due("strike the last one", x.strike(7, 79), 1);
    Check.due("carry back", x.carry(7, true), 1);
    Check.due("throwAway an empty one", x.throwAway(15), 15);
    Check.due("throwAway, held pages", Check.answer(x, y -> y.throwAway(7)), "IllegalStateException");
    x.close(7);
    Check.due("throwAway a full one", x.throwAway(7), 14);
    Check.due("canRestore the last one", x.canRestore(14), true);
    LedgerKiln untrue = Check.after(y -> {
      Play.pages(y, 1);
      y.alter(0, 0, 9);
      Play.times(16, () -> y.copy());
      y.burn(0, 0);
    });
    Check.due("lost, true in none of 16", untrue.lost(), 1);
    Check.due("balanceByCopies, true in none of 16",
        Check.answer(untrue, y -> y.balanceByCopies(0, 0)), "IllegalStateException");
  }

  private static void callsOfTheCourt() {
    LedgerKiln x = made();
    Check.due("holders", x.holders(79), 128);
    Check.due("holders, another day", x.holders(39), 0);
    Check.due("canStrike", x.canStrike(6, 79), false);
    Check.due("strike, not held", x.strike(6, 39), 0);
    Check.due("close, no holds", x.close(6), 0);
    Check.due("close", x.close(7), 40);
    LedgerKiln last = Check.after(y -> { Play.fullBook(y); y.open(); });
    Check.due("hold all pages", last.hold(0, 0, 0, 400), 80);
    Check.due("hold the last of all", Check.after(y -> {
      Play.pages(y, 1);
      y.open();
      Play.times(29, () -> y.hold(0, 7, 0, 0));
    }).hold(0, 1, 0, 0), 1);
  }

  private static void refusals() {
    Check.refusesState("one page more", LimitsTest::full, y -> y.reverse(79));
    Check.refusesState("one day more", LimitsTest::full, y -> y.pass(1));
    Check.refusesState("one copy more", LimitsTest::full, y -> y.copy());
    Check.refusesState("one partial copy more", LimitsTest::full, y -> y.copyFrom(15));
    Check.refusesState("one case more", LimitsTest::full, y -> y.open());
    Check.refusesState("one hold more", LimitsTest::full, y -> y.hold(0, 0, 0, 0));
    Check.refusesIndex("page 80", LimitsTest::full, y -> y.copiesOf(80));
    Check.refusesIndex("page 80 of a copy", LimitsTest::full, y -> y.rot(7, 80));
    Check.refusesIndex("copy 16", LimitsTest::full, y -> y.audit(16));
    Check.refusesIndex("case 8", LimitsTest::full, y -> y.close(8));
    Check.refusesArgument("day 401", LimitsTest::full, y -> y.balance(0, 401));
  }
}
