import java.util.function.Consumer;

/** Promises 31 to 39: copies as they are. */
public final class CopiesAsTheyAreTest {
  private CopiesAsTheyAreTest() {}

  public static void main(String[] args) {
    promise31Copies();
    promise32Size();
    promise33IsInVault();
    promise34Stands();
    promise35CopiesOf();
    promise36CanRestore();
    promise37Gaps();
    promise38Lost();
    promise39Audit();
    Check.end("CopiesAsTheyAreTest");
  }

  /** Copy 0 of pages 0 and 1, copy 1 from it with page 2, copy 2 full and thrown away. */
  private static void three(LedgerKiln x) {
    Play.pages(x, 2);
    x.copy();
    Play.pages(x, 1);
    x.copyFrom(0);
    x.copy();
    x.throwAway(2);
  }

  private static void promise31Copies() {
    LedgerKiln x = Check.after(CopiesAsTheyAreTest::three);
    Check.due("copies, one thrown away", x.copies(), 2);
    x.carry(0, false);
    Check.due("copies, one outside", x.copies(), 2);
    Check.due("copies: the next number", x.copy(), 3);
    Check.due("copies, one more", x.copies(), 3);
  }

  private static void promise32Size() {
    LedgerKiln x = Check.after(CopiesAsTheyAreTest::three);
    Check.due("size, full", x.size(0), 2);
    Check.due("size, partial", x.size(1), 1);
    x.rot(0, 0);
    x.strike(x.open(), 1);
    Check.due("size, whatever stands there", x.size(0), 2);
    Check.due("size, 80 pages", Check.after(y -> { Play.fullBook(y); y.copy(); }).size(0), 80);
    Check.refusesIndex("size -1", CopiesAsTheyAreTest::three, y -> y.size(-1));
    Check.refusesIndex("size, thrown away", CopiesAsTheyAreTest::three, y -> y.size(2));
    Check.refusesIndex("size 3", CopiesAsTheyAreTest::three, y -> y.size(3));
    Check.refusesIndex("size 16", y -> Play.times(16, () -> y.copy()), y -> y.size(16));
  }

  private static void promise33IsInVault() {
    LedgerKiln x = Check.after(CopiesAsTheyAreTest::three);
    Check.due("isInVault, at first", x.isInVault(1), true);
    x.carry(1, false);
    Check.due("isInVault, outside", x.isInVault(1), false);
    Check.due("isInVault, its base", x.isInVault(0), true);
    x.carry(1, true);
    Check.due("isInVault, back", x.isInVault(1), true);
    Check.refusesIndex("isInVault -1", CopiesAsTheyAreTest::three, y -> y.isInVault(-1));
    Check.refusesIndex("isInVault, thrown away", CopiesAsTheyAreTest::three, y -> y.isInVault(2));
    Check.refusesIndex("isInVault 3", CopiesAsTheyAreTest::three, y -> y.isInVault(3));
  }

  private static void promise34Stands() {
    LedgerKiln x = Check.after(CopiesAsTheyAreTest::three);
    Check.due("stands", x.stands(0, 1), true);
    Check.due("stands, partial", x.stands(1, 2), true);
    x.burn(0, 2);
    Check.due("stands, burnt in the book", x.stands(0, 1), true);
    x.rot(0, 1);
    Check.due("stands, rotten", x.stands(0, 1), false);
    Check.refusesIndex("stands, copy -1", CopiesAsTheyAreTest::three, y -> y.stands(-1, 0));
    Check.refusesIndex("stands, thrown away", CopiesAsTheyAreTest::three, y -> y.stands(2, 0));
    Check.refusesIndex("stands, copy 3", CopiesAsTheyAreTest::three, y -> y.stands(3, 0));
    Check.refusesIndex("stands, page -1", CopiesAsTheyAreTest::three, y -> y.stands(0, -1));
    Check.refusesIndex("stands, page 3", CopiesAsTheyAreTest::three, y -> y.stands(1, 3));
    Check.refusesIndex("stands, page of the base", CopiesAsTheyAreTest::three, y -> y.stands(1, 1));
    Check.refusesIndex("stands, page written later", CopiesAsTheyAreTest::three, y -> y.stands(0, 2));
  }

  private static void promise35CopiesOf() {
    LedgerKiln x = Check.after(CopiesAsTheyAreTest::three);
    Check.due("copiesOf, one", x.copiesOf(0), 1);
    x.alter(0, 0, 99);
    x.copy();
    Check.due("copiesOf, one that is not true too", x.copiesOf(0), 2);
    x.carry(0, false);
    Check.due("copiesOf, one outside too", x.copiesOf(0), 2);
    x.rot(3, 0);
    Check.due("copiesOf, one rotten", x.copiesOf(0), 1);
    Play.pages(x, 1);
    Check.due("copiesOf, none", x.copiesOf(3), 0);
    Check.refusesIndex("copiesOf -1", CopiesAsTheyAreTest::three, y -> y.copiesOf(-1));
    Check.refusesIndex("copiesOf 3", CopiesAsTheyAreTest::three, y -> y.copiesOf(3));
  }

  private static void promise36CanRestore() {
    LedgerKiln x = Check.after(CopiesAsTheyAreTest::three);
    Play.pages(x, 1);
    x.copyFrom(1);
    Check.due("canRestore", x.canRestore(3), true);
    x.carry(0, false);
    Check.due("canRestore, outside", x.canRestore(0), false);
    Check.due("canRestore, base outside", x.canRestore(1), false);
    Check.due("canRestore, base of the base outside", x.canRestore(3), false);
    x.carry(0, true);
    x.carry(1, false);
    Check.due("canRestore, only what is made from it outside", x.canRestore(0), true);
    Check.due("canRestore, its base outside", x.canRestore(3), false);
    x.carry(1, true);
    Check.due("canRestore, all back", x.canRestore(3), true);
    Check.refusesIndex("canRestore -1", CopiesAsTheyAreTest::three, y -> y.canRestore(-1));
    Check.refusesIndex("canRestore, thrown away", CopiesAsTheyAreTest::three, y -> y.canRestore(2));
    Check.refusesIndex("canRestore 3", CopiesAsTheyAreTest::three, y -> y.canRestore(3));
  }

  private static void promise37Gaps() {
    LedgerKiln x = Check.after(CopiesAsTheyAreTest::three);
    Check.due("gaps, none", x.gaps(), 0);
    x.strike(x.open(), 1);
    x.alter(0, 0, 99);
    Check.due("gaps, struck and altered are none", x.gaps(), 0);
    x.burn(0, 2);
    Check.due("gaps, two", x.gaps(), 2);
    x.restore(0);
    Check.due("gaps, one restored", x.gaps(), 1);
  }

  private static void promise38Lost() {
    LedgerKiln x = Check.after(CopiesAsTheyAreTest::three);
    Check.due("lost, none", x.lost(), 0);
    Play.pages(x, 1);
    x.burn(3, 3);
    Check.due("lost, in no copy", x.lost(), 1);
    x.burn(0, 2);
    Check.due("lost, in copies", x.lost(), 1);
    x.rot(0, 0);
    Check.due("lost, rotten", x.lost(), 2);
    x.carry(0, false);
    x.carry(1, false);
    Check.due("lost, copies outside", x.lost(), 2);
    x.throwAway(1);
    Check.due("lost, copy thrown away", x.lost(), 3);
    LedgerKiln untrue = Check.after(y -> { Play.pages(y, 2); y.alter(0, 1, 0); y.copy(); y.burn(0, 0); });
    Check.due("lost, not true in the copy", untrue.lost(), 1);
    LedgerKiln struck = Check.after(y -> { Play.pages(y, 1); y.strike(y.open(), 0); });
    Check.due("lost, struck is not burnt", struck.lost(), 0);
    LedgerKiln altered = Check.after(y -> { Play.pages(y, 1); y.alter(0, 0, 5); });
    Check.due("lost, altered is not burnt", altered.lost(), 0);
  }

  private static void promise39Audit() {
    Consumer<LedgerKiln> six = y -> { Play.pages(y, 6); y.copy(); };
    LedgerKiln x = Check.after(six);
    Check.due("audit, all alike", x.audit(0), 0);
    x.burn(0, 0);
    Check.due("audit, stands in the copy alone", x.audit(0), 1);
    x.rot(0, 0);
    Check.due("audit, stands nowhere", x.audit(0), 0);
    LedgerKiln nowhere = Check.after(y -> { six.accept(y); y.alter(0, 0, 9); y.alter(0, 1, 8); y.burn(0, 0); y.rot(0, 0); });
    Check.due("audit, stood there altered, stands nowhere", nowhere.audit(0), 0);
    x.rot(0, 1);
    Check.due("audit, stands in the book alone", x.audit(0), 1);
    x.alter(2, 1, 0);
    Check.due("audit, altered in the book", x.audit(0), 2);
    x.strike(x.open(), 3);
    Check.due("audit, struck, nothing in either", x.audit(0), 2);
    x.carry(0, false);
    x.strike(0, 4);
    Check.due("audit, struck, stands outside", x.audit(0), 3);
    Play.pages(x, 1);
    Check.due("audit, none that it does not have", x.audit(0), 3);
    LedgerKiln untrue = Check.after(y -> { Play.pages(y, 1); y.alter(0, 0, 2); y.copy(); y.alter(0, 0, 3); });
    Check.due("audit, two untrue ones, not the same", untrue.audit(0), 1);
    untrue.alter(0, 0, 2);
    Check.due("audit, two untrue ones, the same", untrue.audit(0), 0);
    untrue.alter(0, 0, 1);
    Check.due("audit, true in the book alone", untrue.audit(0), 1);
    LedgerKiln chain = Check.after(y -> { six.accept(y); Play.pages(y, 2); y.copyFrom(0); y.burn(0, 6); });
    Check.due("audit, its own pages alone", chain.audit(1), 1);
    Check.due("audit of the base", chain.audit(0), 6);
    Check.refusesIndex("audit -1", CopiesAsTheyAreTest::three, y -> y.audit(-1));
    Check.refusesIndex("audit, thrown away", CopiesAsTheyAreTest::three, y -> y.audit(2));
    Check.refusesIndex("audit 3", CopiesAsTheyAreTest::three, y -> y.audit(3));
  }
}
