import java.util.function.Consumer;

/** The sentences of the promises 9 to 14, each with its boundary cases. */
final class CopySentences {
  private static final String REFUSED = "IllegalStateException";

  private CopySentences() {}

  static void all(Sentences s) {
    s.promise(9, "Makes a full copy", CopySentences::copyMakes);
    s.promise(9, "Returns its number", CopySentences::copyNumbers);
    s.promise(9, "if 16 were made", CopySentences::copyRefusesMore);
    s.promise(9, "or a page is burnt", CopySentences::copyRefusesBurnt);
    s.promise(10, "Makes a partial copy", CopySentences::partMakes);
    s.promise(10, "Returns its number", CopySentences::partNumbers);
    s.promise(10, "if there is no such copy", CopySentences::partNeedsBase);
    s.promise(10, "if 16 were made", CopySentences::partRefusesMore);
    s.promise(10, "or a page is burnt", CopySentences::partRefusesBurnt);
    s.promise(11, "Takes a copy outside, or brings it back", CopySentences::carries);
    s.promise(11, "whether it is to lie in the vault", CopySentences::carryTakes);
    s.promise(11, "Returns on how many pages of it nothing stands any more by that", CopySentences::carryCounts);
    s.promise(11, "if there is no such copy", CopySentences::carryNeedsCopy);
    s.promise(12, "A page rots in a copy", CopySentences::rots);
    s.promise(12, "Returns whether something stood there", CopySentences::rotTells);
    s.promise(12, "if there is no such copy or page", CopySentences::rotNeedsBoth);
    s.promise(12, "or the copy does not have it", CopySentences::rotNeedsItsPage);
    s.promise(13, "Throws a copy away", CopySentences::throwsAway);
    s.promise(13, "Returns how many copies there are then", CopySentences::throwAwayCounts);
    s.promise(13, "if there is no such copy", CopySentences::throwAwayNeedsCopy);
    s.promise(13, "if it is not possible", CopySentences::throwAwayRefuses);
    s.promise(14, "Restores the book from a copy", CopySentences::restores);
    s.promise(14, "Returns how many pages get what stands in a copy", CopySentences::restoreCounts);
    s.promise(14, "if there is no such copy", CopySentences::restoreNeedsCopy);
    s.promise(14, "if it is not possible", CopySentences::restoreRefuses);
  }

  private static void copyMakes() {
    LedgerKiln x = Check.after(y -> { Play.pages(y, 3); y.alter(1, 0, 9); y.strike(y.open(), 2); });
    x.copy();
    Check.due("size", x.size(0), 3);
    Check.due("the same as in the book", x.audit(0), 0);
    Check.due("in the vault", x.isInVault(0), true);
    Check.due("it has no base", x.canRestore(0), true);
    Check.due("stands", x.stands(0, 0) && x.stands(0, 1), true);
    Check.due("struck", x.stands(0, 2), false);
    Check.due("the book stays", x.alter(1, 0, 9), 9);
    LedgerKiln chain = Check.after(y -> { Play.threeCopies(y); y.carry(0, false); y.copy(); });
    Check.due("a full one has no base, ever", chain.canRestore(3), true);
    Check.due("a full one has all again", chain.size(3), 4);
  }

  private static void copyNumbers() {
    LedgerKiln x = new LedgerKiln();
    for (int copy = 0; copy < 16; copy++) {
      Check.due("number", x.copy(), copy);
    }
    Check.due("behind one thrown away", Check.answerAfter(Play::threeCopies, y -> y.copy()), 3);
  }

  private static void copyRefusesMore() {
    Check.due("the 16th", Check.answerAfter(y -> Play.times(15, () -> y.copy()), y -> y.copy()), 15);
    Check.refusesState("16 were made", Play::sixteenCopies, x -> x.copy());
    Check.refusesState("16 were made, the last thrown away",
        x -> { Play.sixteenCopies(x); x.throwAway(15); }, x -> x.copy());
    Check.refusesState("16 were made, one partial",
        x -> { Play.times(15, () -> x.copy()); x.copyFrom(3); }, x -> x.copy());
  }

  private static void copyRefusesBurnt() {
    Check.refusesState("the first of 80", x -> { Play.fullBook(x); x.burn(0, 0); }, x -> x.copy());
    Check.refusesState("the last of 80", x -> { Play.fullBook(x); x.burn(79, 79); }, x -> x.copy());
    Check.due("none of 80", Check.answerAfter(Play::fullBook, x -> x.copy()), 0);
    Check.refusesState("one, in a copy it stands", x -> { Play.threeCopies(x); x.burn(1, 1); }, x -> x.copy());
    Check.due("restored",
        Check.answerAfter(x -> { Play.threeCopies(x); x.burn(1, 1); x.restore(0); }, x -> x.copy()), 3);
  }

  private static void partMakes() {
    LedgerKiln x = Check.after(y -> {
      Play.pages(y, 2);
      y.copy();
      Play.pages(y, 3);
      y.alter(2, 0, 9);
      y.strike(y.open(), 4);
      y.alter(0, 0, 9);
    });
    x.copyFrom(0);
    Check.due("size", x.size(1), 3);
    Check.due("the same as in the book", x.audit(1), 0);
    Check.due("the base stays as it was", x.audit(0), 1);
    Check.due("in the vault", x.isInVault(1), true);
    Check.due("stands", x.stands(1, 2) && x.stands(1, 3), true);
    Check.due("struck", x.stands(1, 4), false);
    x.carry(0, false);
    Check.due("it has a base", x.canRestore(1), false);
    Check.due("from a base outside", x.copyFrom(0), 2);
    Check.due("that lies in the vault", x.isInVault(2), true);
  }

  private static void partNumbers() {
    LedgerKiln x = Check.after(y -> y.copy());
    for (int copy = 1; copy < 16; copy++) {
      Check.due("number", x.copyFrom(copy / 2), copy);
    }
    Check.due("behind one thrown away", Check.answerAfter(Play::threeCopies, y -> y.copyFrom(1)), 3);
  }

  private static void partNeedsBase() {
    Edges.noSuch("no copies", 0, Play.nothing(), (x, base) -> x.copyFrom(base));
    Edges.noSuch("three made", 3, Play::threeCopies, (x, base) -> x.copyFrom(base));
    Check.refusesIndex("thrown away", Play::threeCopies, x -> x.copyFrom(2));
    Edges.noSuch("16 made", 16, Play::sixteenCopies, (x, base) -> x.copyFrom(base));
    Check.refusesIndex("thrown away, 16 made", x -> { Play.sixteenCopies(x); x.throwAway(3); }, x -> x.copyFrom(3));
    Check.refusesIndex("none, burnt", x -> { Play.threeCopies(x); x.burn(0, 0); }, x -> x.copyFrom(3));
  }

  private static void partRefusesMore() {
    Check.due("the 16th", Check.answerAfter(y -> Play.times(15, () -> y.copy()), y -> y.copyFrom(14)), 15);
    Check.refusesState("16 were made", Play::sixteenCopies, x -> x.copyFrom(15));
    Check.refusesState("16 were made, one thrown away",
        x -> { Play.sixteenCopies(x); x.throwAway(0); }, x -> x.copyFrom(15));
  }

  private static void partRefusesBurnt() {
    Check.refusesState("a page of the base", x -> { Play.threeCopies(x); x.burn(0, 0); }, x -> x.copyFrom(1));
    Check.refusesState("a page of none",
        x -> { Play.threeCopies(x); Play.pages(x, 1); x.burn(4, 4); }, x -> x.copyFrom(1));
    Check.due("restored",
        Check.answerAfter(x -> { Play.threeCopies(x); x.burn(0, 3); x.restore(1); }, x -> x.copyFrom(1)), 3);
  }

  private static void carries() {
    LedgerKiln x = Check.after(Play::threeCopies);
    x.carry(1, false);
    Check.due("outside", x.isInVault(1), false);
    Check.due("its base stays", x.isInVault(0), true);
    Check.due("what stands there stays", x.stands(1, 2) && x.stands(1, 3), true);
    Check.due("it is no copy less", x.copies(), 2);
    x.carry(1, true);
    Check.due("back", x.isInVault(1), true);
    Check.due("what stands there stays, back", x.stands(1, 2) && x.stands(1, 3), true);
    x.carry(0, false);
    Check.due("what was made from it stays", x.isInVault(1), true);
    LedgerKiln last = Check.after(y -> { Play.sixteenCopies(y); y.carry(15, false); });
    Check.due("the 16th", last.isInVault(15), false);
  }

  private static void carryTakes() {
    LedgerKiln x = Check.after(Play::threeCopies);
    boolean[] places = {true, false, false, true, true, false};
    for (boolean inVault : places) {
      Check.due("carry", x.carry(0, inVault), 0);
      Check.due("in the vault: " + inVault, x.isInVault(0), inVault);
    }
  }

  private static void carryCounts() {
    LedgerKiln x = Check.after(y -> {
      Play.fullBook(y);
      y.copy();
      y.carry(0, false);
      y.open();
    });
    for (int page = 0; page < 80; page++) {
      x.strike(0, page);
    }
    Check.due("80 pages", x.carry(0, true), 80);
    Check.due("none any more", x.carry(0, true), 0);
    LedgerKiln rotten = Check.after(y -> {
      Play.pages(y, 4);
      y.copy();
      y.carry(0, false);
      y.open();
      y.strike(0, 0);
      y.strike(0, 1);
      y.burn(2, 2);
      y.alter(3, 0, 0);
      y.rot(0, 1);
    });
    Check.due("outside again, none", rotten.carry(0, false), 0);
    Check.due("struck, but not rotten", rotten.carry(0, true), 1);
    LedgerKiln part = Check.after(y -> {
      Play.threeCopies(y);
      y.carry(1, false);
      y.open();
      y.strike(0, 0);
      y.strike(0, 3);
    });
    Check.due("of its own pages", part.carry(1, true), 1);
    LedgerKiln ahead = Check.after(y -> { Play.threeCopies(y); y.open(); y.strike(0, 0); y.carry(0, false); });
    Check.due("struck ahead of its way out", ahead.carry(0, true), 0);
  }

  private static void carryNeedsCopy() {
    Edges.noSuch("no copies", 0, Play.nothing(), (x, copy) -> x.carry(copy, true));
    Edges.noSuch("outside", 3, Play::threeCopies, (x, copy) -> x.carry(copy, false));
    Edges.noSuch("back", 3, Play::threeCopies, (x, copy) -> x.carry(copy, true));
    Edges.noSuch("16 made", 16, Play::sixteenCopies, (x, copy) -> x.carry(copy, false));
    Check.refusesIndex("thrown away", Play::threeCopies, x -> x.carry(2, false));
  }

  private static void rots() {
    LedgerKiln x = Check.after(Play::threeCopies);
    x.rot(1, 2);
    Check.due("nothing stands there", x.stands(1, 2), false);
    Check.due("the next one stands", x.stands(1, 3), true);
    Check.due("it has the page still", x.size(1), 2);
    Check.due("the book stays", x.isTrue(2), true);
    Check.due("the audit tells it", x.audit(1), 1);
    x.burn(2, 2);
    Check.due("lost", x.lost(), 1);
    Check.due("not restored", x.restore(1), 0);
    LedgerKiln last = Check.after(y -> { Play.fullBook(y); y.copy(); y.rot(0, 79); });
    Check.due("the last of 80", last.stands(0, 79), false);
    Check.due("the one ahead of it", last.stands(0, 78), true);
  }

  private static void rotTells() {
    LedgerKiln x = Check.after(y -> { Play.threeCopies(y); y.alter(1, 0, 9); y.copy(); y.burn(0, 0); });
    Check.due("it stood", x.rot(0, 0), true);
    Check.due("no more", x.rot(0, 0), false);
    Check.due("burnt in the book, it stood", x.rot(3, 0), true);
    Check.due("not true, it stood", x.rot(3, 1), true);
    x.carry(1, false);
    Check.due("outside, it stood", x.rot(1, 3), true);
    Check.due("outside, no more", x.rot(1, 3), false);
    Check.due("struck",
        Check.answerAfter(y -> { Play.threeCopies(y); y.strike(y.open(), 0); }, y -> y.rot(0, 0)), false);
    Check.due("struck, outside", Check.answerAfter(y -> {
      Play.threeCopies(y);
      y.carry(0, false);
      y.strike(y.open(), 0);
    }, y -> y.rot(0, 0)), true);
  }

  private static void rotNeedsBoth() {
    Edges.noSuch("no copies", 0, Play.nothing(), (x, copy) -> x.rot(copy, 0));
    Edges.noSuch("copy", 3, Play::threeCopies, (x, copy) -> x.rot(copy, 0));
    Check.refusesIndex("thrown away", Play::threeCopies, x -> x.rot(2, 0));
    Edges.noSuch("page", 4, Play::threeCopies, (x, page) -> x.rot(1, page));
    Edges.noSuch("page of 80", 80, x -> { Play.fullBook(x); x.copy(); }, (x, page) -> x.rot(0, page));
    Edges.noSuch("no pages", 0, x -> x.copy(), (x, page) -> x.rot(0, page));
  }

  private static void rotNeedsItsPage() {
    Check.refusesIndex("the one behind its last", Play::threeCopies, x -> x.rot(0, 2));
    Check.refusesIndex("the one ahead of its first", Play::threeCopies, x -> x.rot(1, 1));
    Check.refusesIndex("written later", x -> { Play.threeCopies(x); Play.pages(x, 1); }, x -> x.rot(1, 4));
    Check.due("its first", Check.answerAfter(Play::threeCopies, x -> x.rot(1, 2)), true);
    Check.due("its last", Check.answerAfter(Play::threeCopies, x -> x.rot(1, 3)), true);
  }

  private static void throwsAway() {
    LedgerKiln x = Check.after(y -> { Play.threeCopies(y); y.throwAway(1); });
    Check.due("not there", Check.answer(x, y -> y.size(1)), "IndexOutOfBoundsException");
    Check.due("its base is there", x.size(0), 2);
    Check.due("its pages stand in it no more", x.copiesOf(2), 0);
    Check.due("its base is none any more", x.throwAway(0), 0);
    Check.due("none", x.copies(), 0);
    Check.due("the book stays", x.isTrue(0) && x.isTrue(3), true);
  }

  private static void throwAwayCounts() {
    LedgerKiln x = Check.after(Play::sixteenCopies);
    for (int copy = 0; copy < 16; copy++) {
      Check.due("then", x.throwAway(copy), 15 - copy);
      Check.due("copies", x.copies(), 15 - copy);
    }
    LedgerKiln back = Check.after(Play::sixteenCopies);
    for (int copy = 15; copy >= 0; copy--) {
      Check.due("then, from the last on", back.throwAway(copy), copy);
    }
    Check.due("one of 80 pages", Check.answerAfter(y -> { Play.fullBook(y); y.copy(); }, y -> y.throwAway(0)), 0);
    Check.due("those outside count",
        Check.answerAfter(y -> { Play.sixteenCopies(y); y.carry(0, false); }, y -> y.throwAway(1)), 15);
  }

  private static void throwAwayNeedsCopy() {
    Edges.noSuch("no copies", 0, Play.nothing(), (x, copy) -> x.throwAway(copy));
    Edges.noSuch("three made", 3, Play::threeCopies, (x, copy) -> x.throwAway(copy));
    Edges.noSuch("16 made", 16, Play::sixteenCopies, (x, copy) -> x.throwAway(copy));
    Check.refusesIndex("twice", Play::threeCopies, x -> x.throwAway(2));
  }

  private static void throwAwayRefuses() {
    Check.refusesState("a base", Play::threeCopies, x -> x.throwAway(0));
    Consumer<LedgerKiln> held = x -> { Play.sixteenCopies(x); x.hold(x.open(), 1, 0, 0); };
    Check.refusesState("a held page", held, x -> x.throwAway(15));
    Check.due("the case is closed",
        Check.answerAfter(x -> { held.accept(x); x.close(0); }, x -> x.throwAway(15)), 15);
    Check.refusesState("of 79 pages the first is held", x -> {
      Play.page(x, 5, 6, 1, 0);
      Play.times(39, () -> x.reverse(Play.page(x, 0, 1, 1, 0)));
      x.copy();
      x.hold(x.open(), 5, 0, 0);
    }, x -> x.throwAway(0));
    Check.refusesState("of 80 pages the last is held", x -> {
      Play.times(39, () -> x.reverse(Play.page(x, 0, 1, 1, 0)));
      Play.page(x, 0, 1, 1, 0);
      Play.page(x, 5, 6, 1, 0);
      x.copy();
      x.hold(x.open(), 6, 0, 0);
    }, x -> x.throwAway(0));
  }

  private static void restores() {
    LedgerKiln x = Check.after(y -> { Play.threeCopies(y); y.burn(0, 0); y.alter(1, 1, 0); y.burn(2, 3); });
    x.restore(1);
    for (int page = 0; page < 4; page++) {
      Check.due("stands", x.state(page), 0);
      Check.due("true", x.isTrue(page), true);
    }
    Check.due("its text", x.text(3), 1);
    Check.due("the copies stay", x.audit(0) + x.audit(1), 0);
    Check.due("no gap", x.gaps(), 0);
    LedgerKiln draft = Check.after(y -> { Play.threeCopies(y); y.burn(0, 0); y.leg(0, 1); y.restore(0); });
    Check.due("the draft stays", draft.wipe(), 1);
  }

  private static void restoreCounts() {
    Check.due("none", Check.answerAfter(Play::threeCopies, x -> x.restore(1)), 0);
    Check.due("all 80",
        Check.answerAfter(x -> { Play.fullBook(x); x.copy(); x.burn(0, 79); }, x -> x.restore(0)), 80);
    Check.due("of the first copy alone",
        Check.answerAfter(x -> { Play.threeCopies(x); x.burn(0, 3); }, x -> x.restore(0)), 2);
    Check.due("of both", Check.answerAfter(x -> { Play.threeCopies(x); x.burn(0, 3); }, x -> x.restore(1)), 4);
    Check.due("one is true", Check.answerAfter(x -> { Play.threeCopies(x); x.burn(1, 3); }, x -> x.restore(1)), 3);
    Check.due("one is struck",
        Check.answerAfter(x -> { Play.threeCopies(x); x.strike(x.open(), 0); x.burn(0, 3); }, x -> x.restore(1)), 3);
    Check.due("one is rotten",
        Check.answerAfter(x -> { Play.threeCopies(x); x.rot(1, 2); x.burn(0, 3); }, x -> x.restore(1)), 3);
    Check.due("altered and burnt",
        Check.answerAfter(x -> { Play.threeCopies(x); x.alter(0, 0, 5); x.burn(3, 3); }, x -> x.restore(1)), 2);
    Check.due("no pages", Check.answerAfter(x -> x.copy(), x -> x.restore(0)), 0);
  }

  private static void restoreNeedsCopy() {
    Edges.noSuch("no copies", 0, Play.nothing(), (x, copy) -> x.restore(copy));
    Edges.noSuch("three made", 3, x -> { Play.threeCopies(x); x.burn(0, 3); }, (x, copy) -> x.restore(copy));
    Edges.noSuch("16 made", 16, Play::sixteenCopies, (x, copy) -> x.restore(copy));
    Check.refusesIndex("thrown away", x -> { Play.threeCopies(x); x.burn(0, 3); }, x -> x.restore(2));
  }

  private static void restoreRefuses() {
    Consumer<LedgerKiln> burnt = x -> { Play.threeCopies(x); x.burn(0, 3); };
    Check.refusesState("outside", x -> { burnt.accept(x); x.carry(1, false); }, x -> x.restore(1));
    Check.refusesState("its base outside", x -> { burnt.accept(x); x.carry(0, false); }, x -> x.restore(1));
    Check.refusesState("both outside",
        x -> { burnt.accept(x); x.carry(0, false); x.carry(1, false); }, x -> x.restore(1));
    Check.refusesState("nothing to get, outside",
        x -> { Play.threeCopies(x); x.carry(0, false); }, x -> x.restore(0));
    Check.due("what is made from it outside",
        Check.answerAfter(x -> { burnt.accept(x); x.carry(1, false); }, x -> x.restore(0)), 2);
    Check.due("back again", Check.answerAfter(x -> {
      burnt.accept(x);
      x.carry(0, false);
      x.carry(0, true);
    }, x -> x.restore(1)), 4);
    LedgerKiln half = Check.after(x -> { burnt.accept(x); x.carry(0, false); });
    Check.due("refused", Check.answer(half, x -> x.restore(1)), REFUSED);
    Check.due("nothing of it was restored", half.gaps(), 4);
  }
}
