import java.util.function.Consumer;

/** Promises 9 to 14: the calls that make, carry, spoil, throw away and use copies. */
public final class CopiesTest {
  private CopiesTest() {}

  public static void main(String[] args) {
    promise9Copy();
    promise10CopyFrom();
    promise11Carry();
    promise12Rot();
    promise13ThrowAway();
    promise14Restore();
    promise14RestoreFromChain();
    promise14RestoreNothingStruck();
    Check.end("CopiesTest");
  }

  /** Three pages, 0 struck by a closed case, 1 altered, 2 as written. */
  private static void mixed(LedgerKiln x) {
    Play.pages(x, 3);
    x.strike(x.open(), 0);
    x.close(0);
    x.alter(1, 0, 99);
  }

  private static void promise9Copy() {
    LedgerKiln x = new LedgerKiln();
    Check.due("copy of no pages", x.copy(), 0);
    Check.due("copy of no pages: size", x.size(0), 0);
    mixed(x);
    Check.due("copy", x.copy(), 1);
    Check.due("copy: size", x.size(1), 3);
    Check.due("copy: nothing of a struck page", x.stands(1, 0), false);
    Check.due("copy: an altered page", x.stands(1, 1), true);
    Check.due("copy: an untouched page", x.stands(1, 2), true);
    Check.due("copy: in the vault", x.isInVault(1), true);
    Check.due("copy: the same stands", x.audit(1), 0);
    x.alter(1, 0, 2);
    Check.due("copy: altered as the book was", x.audit(1), 1);
    Play.pages(x, 1);
    Check.due("copy: no later page", x.size(1), 3);

    Consumer<LedgerKiln> burnt = y -> { Play.pages(y, 2); y.burn(1, 1); };
    Check.refusesState("copy, a page is burnt", burnt, y -> y.copy());
    Consumer<LedgerKiln> all = y -> { Play.pages(y, 1); Play.times(16, () -> y.copy()); };
    Check.refusesState("copy, 16 were made", all, y -> y.copy());
    Check.due("copy, 16 are there", Check.after(all).copies(), 16);
    Check.refusesState("copy, 16 were made, one thrown away", y -> { all.accept(y); y.throwAway(3); }, y -> y.copy());
  }

  private static void promise10CopyFrom() {
    LedgerKiln x = new LedgerKiln();
    Play.pages(x, 2);
    x.copy();
    mixedBehind(x);
    Check.due("copyFrom", x.copyFrom(0), 1);
    Check.due("copyFrom: size", x.size(1), 3);
    Check.due("copyFrom: nothing of a struck page", x.stands(1, 2), false);
    Check.due("copyFrom: an altered page", x.stands(1, 3), true);
    Check.due("copyFrom: not what the base has", Check.answer(x, y -> y.stands(1, 1)), "IndexOutOfBoundsException");
    Check.due("copyFrom: the same stands", x.audit(1), 0);
    Check.due("copyFrom a partial one", x.copyFrom(1), 2);
    Check.due("copyFrom, nothing written since", x.size(2), 0);
    Play.pages(x, 1);
    Check.due("copyFrom the first again", x.copyFrom(0), 3);
    Check.due("copyFrom: all since the base was made", x.size(3), 4);
    x.carry(0, false);
    Check.due("copyFrom one outside", x.copyFrom(0), 4);
    Check.due("copyFrom: in the vault itself", x.isInVault(4), true);

    Consumer<LedgerKiln> one = y -> { Play.pages(y, 2); y.copy(); };
    Consumer<LedgerKiln> burnt = y -> { one.accept(y); y.burn(0, 0); };
    Consumer<LedgerKiln> all = y -> { one.accept(y); Play.times(15, () -> y.copyFrom(0)); };
    Check.refusesIndex("copyFrom -1", one, y -> y.copyFrom(-1));
    Check.refusesIndex("copyFrom 1", one, y -> y.copyFrom(1));
    Check.refusesIndex("copyFrom 16", one, y -> y.copyFrom(16));
    Check.refusesIndex("copyFrom one thrown away", y -> { one.accept(y); y.throwAway(0); }, y -> y.copyFrom(0));
    Check.refusesState("copyFrom, a page is burnt", burnt, y -> y.copyFrom(0));
    Check.refusesState("copyFrom, 16 were made", all, y -> y.copyFrom(3));
    Check.refusesIndex("copyFrom, base ahead of state", all, y -> y.copyFrom(16));
    Check.refusesIndex("copyFrom, base ahead of burnt", burnt, y -> y.copyFrom(1));
  }

  private static void mixedBehind(LedgerKiln x) {
    Play.pages(x, 3);
    x.strike(x.open(), 2);
    x.alter(3, 0, 99);
  }

  private static void promise11Carry() {
    LedgerKiln x = Check.after(y -> { Play.pages(y, 4); y.copy(); y.copy(); y.open(); });
    Check.due("carry outside", x.carry(0, false), 0);
    Check.due("carry: outside", x.isInVault(0), false);
    Check.due("carry: the other one stays", x.isInVault(1), true);
    Check.due("carry outside again", x.carry(0, false), 0);
    x.strike(0, 0);
    x.strike(0, 2);
    x.strike(0, 3);
    x.rot(0, 3);
    Check.due("carry, outside it keeps struck pages", x.stands(0, 0), true);
    Check.due("carry outside with struck pages", x.carry(0, false), 0);
    Check.due("carry, it keeps them still", x.copiesOf(0), 1);
    Check.due("carry back", x.carry(0, true), 2);
    Check.due("carry: in the vault", x.isInVault(0), true);
    Check.due("carry: struck pages lost", x.stands(0, 0) || x.stands(0, 2), false);
    Check.due("carry: others stay", x.stands(0, 1), true);
    Check.due("carry back again", x.carry(0, true), 0);
    Check.due("carry back what never left", x.carry(1, true), 0);
    LedgerKiln burnt = Check.after(y -> { Play.pages(y, 1); y.copy(); y.carry(0, false); y.burn(0, 0); });
    Check.due("carry back, burnt pages stay", burnt.carry(0, true), 0);
    Check.due("carry back, burnt pages stand there", burnt.stands(0, 0), true);

    Consumer<LedgerKiln> one = y -> { Play.pages(y, 1); y.copy(); y.copy(); y.throwAway(1); };
    Check.refusesIndex("carry -1", one, y -> y.carry(-1, false));
    Check.refusesIndex("carry 2", one, y -> y.carry(2, true));
    Check.refusesIndex("carry one thrown away", one, y -> y.carry(1, false));
  }

  private static void promise12Rot() {
    LedgerKiln x = Check.after(y -> { Play.pages(y, 2); y.copy(); y.copy(); Play.pages(y, 1); y.copyFrom(0); });
    Check.due("rot", x.rot(0, 1), true);
    Check.due("rot: nothing stands there", x.stands(0, 1), false);
    Check.due("rot: the other page", x.stands(0, 0), true);
    Check.due("rot: the other copy", x.stands(1, 1), true);
    Check.due("rot: the book", x.isTrue(1), true);
    Check.due("rot: it still has the page", x.size(0), 2);
    Check.due("rot again", x.rot(0, 1), false);
    x.carry(1, false);
    Check.due("rot outside", x.rot(1, 0), true);
    Check.due("rot in a partial copy", x.rot(2, 2), true);
    x.strike(x.open(), 0);
    Check.due("rot a struck page", x.rot(0, 0), false);

    Consumer<LedgerKiln> some = y -> {
      Play.pages(y, 1);
      y.copy();
      Play.pages(y, 1);
      y.copyFrom(0);
      y.copy();
      y.throwAway(2);
    };
    Check.refusesIndex("rot, copy -1", some, y -> y.rot(-1, 0));
    Check.refusesIndex("rot, copy 3", some, y -> y.rot(3, 0));
    Check.refusesIndex("rot, copy thrown away", some, y -> y.rot(2, 0));
    Check.refusesIndex("rot, page -1", some, y -> y.rot(0, -1));
    Check.refusesIndex("rot, page 2", some, y -> y.rot(1, 2));
    Check.refusesIndex("rot, page of the base", some, y -> y.rot(1, 0));
    Check.refusesIndex("rot, page behind the copy", some, y -> y.rot(0, 1));
  }

  private static void promise13ThrowAway() {
    LedgerKiln x = Check.after(y -> { Play.pages(y, 1); y.copy(); y.copyFrom(0); y.copyFrom(1); y.copy(); });
    Check.due("throwAway, a base", Check.answer(x, y -> y.throwAway(1)), "IllegalStateException");
    Check.due("throwAway", x.throwAway(2), 3);
    Check.due("throwAway: copies", x.copies(), 3);
    Check.due("throwAway: numbers stay", x.size(3), 1);
    Check.due("throwAway, base of none any more", x.throwAway(1), 2);
    Check.due("throwAway, the first", x.throwAway(0), 1);
    Check.due("throwAway: a new number", x.copy(), 4);
    x.carry(4, false);
    Check.due("throwAway one outside", x.throwAway(4), 1);

    Consumer<LedgerKiln> base = y -> { Play.pages(y, 1); y.copy(); y.copyFrom(0); };
    Consumer<LedgerKiln> held = y -> { Play.pages(y, 1); y.copy(); y.hold(y.open(), 1, 0, 0); };
    Check.refusesIndex("throwAway -1", base, y -> y.throwAway(-1));
    Check.refusesIndex("throwAway 2", base, y -> y.throwAway(2));
    Check.refusesIndex("throwAway twice", y -> { base.accept(y); y.throwAway(1); }, y -> y.throwAway(1));
    Check.refusesState("throwAway, base", base, y -> y.throwAway(0));
    Check.refusesState("throwAway, a page held", held, y -> y.throwAway(0));
    Check.due("throwAway, the case is closed", Check.after(y -> { held.accept(y); y.close(0); }).throwAway(0), 0);
    Check.due("throwAway, the page rotted", Check.after(y -> { held.accept(y); y.rot(0, 0); }).throwAway(0), 0);
    Check.due("throwAway, the page was struck", Check.after(y -> { held.accept(y); y.strike(0, 0); }).throwAway(0), 0);
    Check.refusesState("throwAway, struck, but stands outside",
        y -> { held.accept(y); y.carry(0, false); y.strike(0, 0); }, y -> y.throwAway(0));
    Check.refusesState("throwAway, held and burnt in the book",
        y -> { held.accept(y); y.burn(0, 0); }, y -> y.throwAway(0));
    Check.refusesState("throwAway, held, altered where it stands",
        y -> { Play.pages(y, 1); y.alter(0, 1, 0); y.copy(); y.hold(y.open(), 1, 0, 0); }, y -> y.throwAway(0));
    LedgerKiln own = Check.after(y -> { held.accept(y); y.pass(1); Play.pages(y, 1); y.copyFrom(0); });
    Check.due("throwAway, held pages are not its own", own.throwAway(1), 1);
  }

  private static void promise14Restore() {
    LedgerKiln x = Check.after(y -> { Play.pages(y, 6); y.alter(5, 0, 1); y.copy(); });
    Check.due("restore, nothing to do", x.restore(0), 0);
    x.burn(0, 0);
    x.alter(1, 0, 77);
    x.burn(2, 2);
    x.rot(0, 2);
    x.alter(3, 1, -4);
    x.burn(5, 5);
    Check.due("restore burnt and altered pages", x.restore(0), 2);
    Check.due("restore: burnt stands", x.state(0), 0);
    Check.due("restore: burnt is true", x.isTrue(0), true);
    Check.due("restore: altered is true", x.isTrue(1), true);
    Check.due("restore: rotten stays burnt", x.state(2), 1);
    Check.due("restore: true stays", x.isTrue(3), true);
    Check.due("restore: what is not true there is not taken", x.state(5), 1);
    Check.due("restore: the copy keeps it", x.stands(0, 0), true);
    Check.due("restore again", x.restore(0), 0);
    x.alter(0, 0, 8);
    Check.due("restore, the copy was not altered", x.restore(0), 1);
    Check.due("restore: as written", x.alter(0, 0, 3), 1);
    LedgerKiln later = Check.after(y -> { Play.pages(y, 1); y.copy(); Play.pages(y, 1); y.burn(0, 1); });
    Check.due("restore, only what it has", later.restore(0), 1);

    Consumer<LedgerKiln> outside = y -> { Play.pages(y, 2); y.copy(); y.burn(0, 1); y.carry(0, false); };
    Check.refusesIndex("restore -1", outside, y -> y.restore(-1));
    Check.refusesIndex("restore 1", outside, y -> y.restore(1));
    Check.refusesIndex("restore 16", outside, y -> y.restore(16));
    Check.refusesState("restore, it lies outside", outside, y -> y.restore(0));
    Check.refusesIndex("restore, thrown away", y -> { outside.accept(y); y.throwAway(0); }, y -> y.restore(0));
  }

  private static void promise14RestoreFromChain() {
    Consumer<LedgerKiln> chain = y -> {
      Play.pages(y, 2);
      y.copy();
      Play.pages(y, 2);
      y.copyFrom(0);
      Play.pages(y, 2);
      y.copyFrom(1);
      y.burn(0, 5);
    };
    LedgerKiln x = Check.after(chain);
    x.rot(1, 2);
    Check.due("restore from a chain", x.restore(2), 5);
    Check.due("restore from a chain: gaps", x.gaps(), 1);
    Check.due("restore from the middle", Check.after(chain).restore(1), 4);
    Check.due("restore from the first", Check.after(chain).restore(0), 2);
    Check.refusesState("restore, base of the base outside", y -> { chain.accept(y); y.carry(0, false); }, y -> y.restore(2));
    Check.refusesState("restore, base outside", y -> { chain.accept(y); y.carry(1, false); }, y -> y.restore(2));
    Check.due("restore, only a later one outside", Check.after(y -> { chain.accept(y); y.carry(2, false); }).restore(1), 4);
  }

  private static void promise14RestoreNothingStruck() {
    LedgerKiln x = Check.after(y -> {
      Play.pages(y, 3);
      y.copy();
      y.carry(0, false);
      y.strike(y.open(), 1);
      y.burn(0, 2);
      y.carry(0, true);
    });
    Check.due("restore, struck pages stay struck", x.restore(0), 2);
    Check.due("restore: struck", x.state(1), 2);
  }
}
