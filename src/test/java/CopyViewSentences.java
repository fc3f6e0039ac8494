import java.util.function.BiFunction;
import java.util.function.Consumer;

/** The sentences of the promises 31 to 39, each with its boundary cases. */
final class CopyViewSentences {
  private CopyViewSentences() {}

  static void all(Sentences s) {
    s.promise(31, "Returns how many copies there are", CopyViewSentences::copies);
    s.promise(32, "Returns how many pages a copy has, whatever stands on them", CopyViewSentences::size);
    s.promise(32, "if there is no such copy", () -> needsCopy((x, copy) -> x.size(copy)));
    s.promise(33, "Tells whether a copy lies in the vault", CopyViewSentences::isInVault);
    s.promise(33, "if there is no such copy", () -> needsCopy((x, copy) -> x.isInVault(copy)));
    s.promise(34, "Tells whether something stands on a page in a copy", CopyViewSentences::stands);
    s.promise(34, "if there is no such copy or page", CopyViewSentences::standsNeedsBoth);
    s.promise(34, "or the copy does not have it", CopyViewSentences::standsNeedsItsPage);
    s.promise(35, "Returns in how many copies, in the vault or outside, a page stands", CopyViewSentences::copiesOf);
    s.promise(35, "if there is no such page", CopyViewSentences::copiesOfNeedsPage);
    s.promise(36, "Tells whether the book could be restored from a copy now", CopyViewSentences::canRestore);
    s.promise(36, "if there is no such copy", () -> needsCopy((x, copy) -> x.canRestore(copy)));
    s.promise(37, "Returns how many pages of the book are burnt", CopyViewSentences::gaps);
    s.promise(38, "are burnt and stand, true, in no copy", CopyViewSentences::lost);
    s.promise(38, "in the vault or outside", CopyViewSentences::lostOutside);
    s.promise(39, "on how many of its own pages", CopyViewSentences::auditOwnPages);
    s.promise(39, "something stands on one of both alone", CopyViewSentences::auditOneAlone);
    s.promise(39, "or what stands there is not the same, number by number", CopyViewSentences::auditNumbers);
    s.promise(39, "if there is no such copy", () -> needsCopy((x, copy) -> x.audit(copy)));
  }

  private static void needsCopy(BiFunction<LedgerKiln, Integer, Object> call) {
    Edges.noSuch("no copies", 0, x -> Play.pages(x, 1), call);
    Edges.noSuch("three made", 3, Play::threeCopies, call);
    Edges.noSuch("16 made", 16, Play::sixteenCopies, call);
    Check.refusesIndex("thrown away", Play::threeCopies, x -> call.apply(x, 2));
    Check.refusesIndex("the 16th, thrown away",
        x -> { Play.sixteenCopies(x); x.throwAway(15); }, x -> call.apply(x, 15));
  }

  private static void copies() {
    LedgerKiln x = new LedgerKiln();
    Check.due("none", x.copies(), 0);
    for (int copy = 0; copy < 16; copy++) {
      x.copy();
      Check.due("made", x.copies(), copy + 1);
    }
    Check.answer(x, y -> y.copy());
    Check.due("a refused one is none", x.copies(), 16);
    x.carry(3, false);
    Check.due("one outside", x.copies(), 16);
    for (int copy = 0; copy < 16; copy++) {
      x.throwAway(copy);
      Check.due("thrown away", x.copies(), 15 - copy);
    }
    Check.due("partial ones", Check.answerAfter(Play::threeCopies, y -> y.copies()), 2);
  }

  private static void size() {
    Check.due("no pages", Check.answerAfter(x -> x.copy(), x -> x.size(0)), 0);
    LedgerKiln x = Check.after(Play::threeCopies);
    Check.due("full", x.size(0), 2);
    Check.due("partial", x.size(1), 2);
    x.rot(0, 0);
    x.rot(0, 1);
    x.strike(x.open(), 2);
    x.burn(0, 3);
    Check.due("rotten", x.size(0), 2);
    Check.due("struck and burnt", x.size(1), 2);
    x.carry(1, false);
    Check.due("outside", x.size(1), 2);
    Check.due("80", Check.answerAfter(y -> { Play.fullBook(y); y.copy(); }, y -> y.size(0)), 80);
    Check.due("80, partial",
        Check.answerAfter(y -> { y.copy(); Play.fullBook(y); y.copyFrom(0); }, y -> y.size(1)), 80);
    Check.due("none since",
        Check.answerAfter(y -> { Play.fullBook(y); y.copy(); y.copyFrom(0); }, y -> y.size(1)), 0);
    Check.due("1",
        Check.answerAfter(y -> { Play.oneShort(y); y.copy(); y.reverse(78); y.copyFrom(0); }, y -> y.size(1)), 1);
  }

  private static void isInVault() {
    LedgerKiln x = Check.after(Play::sixteenCopies);
    for (int copy = 0; copy < 16; copy++) {
      Check.due("at first", x.isInVault(copy), true);
      x.carry(copy, false);
      Check.due("outside", x.isInVault(copy), false);
    }
    x.carry(15, true);
    Check.due("back", x.isInVault(15), true);
    Check.due("the one beside it", x.isInVault(14), false);
  }

  private static void stands() {
    LedgerKiln x = Check.after(y -> { Play.threeCopies(y); y.alter(0, 0, 9); y.copy(); });
    Check.due("full", x.stands(0, 0) && x.stands(0, 1), true);
    Check.due("partial", x.stands(1, 2) && x.stands(1, 3), true);
    Check.due("not true", x.stands(3, 0), true);
    x.burn(0, 3);
    Check.due("burnt in the book", x.stands(0, 0), true);
    x.rot(1, 2);
    Check.due("rotten", x.stands(1, 2), false);
    x.restore(0);
    Check.due("restored into the book alone", x.stands(1, 2), false);
    x.carry(0, false);
    Check.due("outside", x.stands(0, 1), true);
    x.strike(x.open(), 1);
    Check.due("struck, outside", x.stands(0, 1), true);
    Check.due("struck, in the vault", x.stands(3, 1), false);
    x.carry(0, true);
    Check.due("struck, back", x.stands(0, 1), false);
  }

  private static void standsNeedsBoth() {
    needsCopy((x, copy) -> x.stands(copy, 0));
    Edges.noSuch("page", 4, Play::threeCopies, (x, page) -> x.stands(1, page));
    Edges.noSuch("page of 80", 80, x -> { Play.fullBook(x); x.copy(); }, (x, page) -> x.stands(0, page));
    Edges.noSuch("no pages", 0, x -> x.copy(), (x, page) -> x.stands(0, page));
  }

  private static void standsNeedsItsPage() {
    Check.refusesIndex("the one behind its last", Play::threeCopies, x -> x.stands(0, 2));
    Check.refusesIndex("the one ahead of its first", Play::threeCopies, x -> x.stands(1, 1));
    Check.refusesIndex("written later", x -> { Play.threeCopies(x); Play.pages(x, 1); }, x -> x.stands(1, 4));
    Check.refusesIndex("a copy of no pages", x -> { x.copy(); Play.pages(x, 1); }, x -> x.stands(0, 0));
    Check.due("its first", Check.answerAfter(Play::threeCopies, x -> x.stands(1, 2)), true);
    Check.due("its last", Check.answerAfter(Play::threeCopies, x -> x.stands(1, 3)), true);
  }

  private static void copiesOf() {
    LedgerKiln x = Check.after(Play::sixteenCopies);
    Check.due("all 16", x.copiesOf(0), 16);
    x.carry(0, false);
    x.carry(15, false);
    Check.due("two outside", x.copiesOf(0), 16);
    x.rot(3, 0);
    Check.due("one rotten", x.copiesOf(0), 15);
    x.throwAway(15);
    Check.due("one thrown away", x.copiesOf(0), 14);
    x.burn(0, 0);
    Check.due("burnt in the book", x.copiesOf(0), 14);
    x.restore(1);
    x.strike(x.open(), 0);
    Check.due("struck, one outside", x.copiesOf(0), 1);
    x.carry(0, true);
    Check.due("struck, it came back", x.copiesOf(0), 0);
    LedgerKiln part = Check.after(Play::threeCopies);
    Check.due("of the base", part.copiesOf(1), 1);
    Check.due("of the partial one", part.copiesOf(2), 1);
    Play.pages(part, 1);
    Check.due("none", part.copiesOf(4), 0);
    part.alter(4, 0, 9);
    part.copy();
    Check.due("not true", part.copiesOf(4), 1);
  }

  private static void copiesOfNeedsPage() {
    Edges.noSuch("no pages", 0, x -> x.copy(), (x, page) -> x.copiesOf(page));
    Edges.noSuch("four pages", 4, Play::threeCopies, (x, page) -> x.copiesOf(page));
    Edges.noSuch("80 pages", 80, x -> { Play.fullBook(x); x.copy(); }, (x, page) -> x.copiesOf(page));
  }

  private static void canRestore() {
    LedgerKiln x = Check.after(Play::threeCopies);
    Check.due("a full one", x.canRestore(0), true);
    Check.due("a partial one", x.canRestore(1), true);
    x.carry(1, false);
    Check.due("outside", x.canRestore(1), false);
    Check.due("its base in the vault", x.canRestore(0), true);
    x.carry(1, true);
    x.carry(0, false);
    Check.due("its base outside", x.canRestore(1), false);
    Check.due("the base itself", x.canRestore(0), false);
    x.carry(0, true);
    Check.due("all back", x.canRestore(1), true);
    x.burn(0, 3);
    Check.due("burnt", x.canRestore(1), true);
    Check.due("nothing was restored by that", x.gaps(), 4);
    x.rot(0, 0);
    x.rot(0, 1);
    Check.due("nothing stands in it", x.canRestore(0), true);
    Check.due("as it could", x.restore(1), 2);
    Check.due("no pages", Check.answerAfter(y -> y.copy(), y -> y.canRestore(0)), true);
  }

  private static void gaps() {
    Check.due("no pages", new LedgerKiln().gaps(), 0);
    LedgerKiln x = Check.after(Play::threeCopies);
    Check.due("none", x.gaps(), 0);
    x.alter(0, 0, 9);
    x.strike(x.open(), 1);
    Check.due("altered and struck ones are none", x.gaps(), 0);
    x.burn(0, 2);
    Check.due("two", x.gaps(), 2);
    x.restore(0);
    Check.due("one restored", x.gaps(), 1);
    x.burn(3, 3);
    Check.due("one more", x.gaps(), 2);
    Check.due("80", Check.answerAfter(y -> { Play.fullBook(y); y.burn(0, 79); }, y -> y.gaps()), 80);
    Check.due("the last of 80", Check.answerAfter(y -> { Play.fullBook(y); y.burn(79, 79); }, y -> y.gaps()), 1);
  }

  private static void lost() {
    Check.due("no pages", new LedgerKiln().lost(), 0);
    Consumer<LedgerKiln> burnt = x -> { Play.pages(x, 2); x.copy(); x.burn(0, 1); };
    Check.due("both in a copy", Check.answerAfter(burnt, x -> x.lost()), 0);
    Check.due("one rotten", Check.answerAfter(x -> { burnt.accept(x); x.rot(0, 1); }, x -> x.lost()), 1);
    Check.due("thrown away", Check.answerAfter(x -> { burnt.accept(x); x.throwAway(0); }, x -> x.lost()), 2);
    Check.due("not burnt, in no copy", Check.answerAfter(x -> Play.pages(x, 2), x -> x.lost()), 0);
    Check.due("altered, in no copy",
        Check.answerAfter(x -> { Play.pages(x, 2); x.alter(0, 0, 9); }, x -> x.lost()), 0);
    Check.due("struck, in no copy",
        Check.answerAfter(x -> { Play.pages(x, 2); x.strike(x.open(), 0); }, x -> x.lost()), 0);
    Check.due("not true in the copy", Check.answerAfter(x -> {
      Play.pages(x, 2);
      x.alter(1, 1, 0);
      x.copy();
      x.burn(0, 1);
    }, x -> x.lost()), 1);
    Check.due("true in the second copy alone", Check.answerAfter(x -> {
      Play.pages(x, 2);
      x.alter(1, 1, 0);
      x.copy();
      x.alter(1, 1, -2);
      x.copy();
      x.burn(0, 1);
    }, x -> x.lost()), 0);
    Check.due("written behind the copy", Check.answerAfter(x -> {
      Play.pages(x, 1);
      x.copy();
      Play.pages(x, 1);
      x.burn(0, 1);
    }, x -> x.lost()), 1);
    Check.due("80", Check.answerAfter(x -> { Play.fullBook(x); x.burn(0, 79); }, x -> x.lost()), 80);
    Check.due("in the 16th copy alone", Check.answerAfter(x -> {
      Play.times(15, () -> x.copy());
      Play.pages(x, 1);
      x.copy();
      x.burn(0, 0);
    }, x -> x.lost()), 0);
  }

  private static void lostOutside() {
    Consumer<LedgerKiln> burnt = x -> { Play.threeCopies(x); x.burn(0, 3); };
    Check.due("all in the vault", Check.answerAfter(burnt, x -> x.lost()), 0);
    Check.due("one outside", Check.answerAfter(x -> { burnt.accept(x); x.carry(0, false); }, x -> x.lost()), 0);
    LedgerKiln x = Check.after(y -> { burnt.accept(y); y.carry(0, false); y.carry(1, false); });
    Check.due("all outside", x.lost(), 0);
    x.rot(1, 3);
    Check.due("rotten outside", x.lost(), 1);
    x.throwAway(1);
    Check.due("thrown away outside", x.lost(), 2);
  }

  private static void auditOwnPages() {
    Check.due("no pages", Check.answerAfter(x -> x.copy(), x -> x.audit(0)), 0);
    LedgerKiln x = Check.after(y -> { Play.threeCopies(y); y.burn(0, 2); });
    Check.due("the base", x.audit(0), 2);
    Check.due("the partial one", x.audit(1), 1);
    Play.pages(x, 1);
    x.alter(4, 0, 9);
    Check.due("not what was written later", x.audit(1), 1);
    Check.due("80", Check.answerAfter(y -> { Play.fullBook(y); y.copy(); y.burn(0, 79); }, y -> y.audit(0)), 80);
    Check.due("none of 80", Check.answerAfter(y -> { Play.fullBook(y); y.copy(); }, y -> y.audit(0)), 0);
    Check.due("the last of 80",
        Check.answerAfter(y -> { Play.fullBook(y); y.copy(); y.rot(0, 79); }, y -> y.audit(0)), 1);
    x.carry(1, false);
    Check.due("outside too", x.audit(1), 1);
  }

  private static void auditOneAlone() {
    Consumer<LedgerKiln> one = y -> { Play.pages(y, 1); y.copy(); };
    LedgerKiln x = Check.after(one);
    Check.due("on both", x.audit(0), 0);
    x.rot(0, 0);
    Check.due("in the book alone", x.audit(0), 1);
    x.burn(0, 0);
    Check.due("on neither", x.audit(0), 0);
    Check.due("in the copy alone, burnt",
        Check.answerAfter(y -> { one.accept(y); y.burn(0, 0); }, y -> y.audit(0)), 1);
    LedgerKiln struck = Check.after(y -> { one.accept(y); y.carry(0, false); y.strike(y.open(), 0); });
    Check.due("in the copy alone, struck", struck.audit(0), 1);
    struck.carry(0, true);
    Check.due("struck, on neither", struck.audit(0), 0);
    Check.due("struck, in the vault, on neither",
        Check.answerAfter(y -> { one.accept(y); y.strike(y.open(), 0); }, y -> y.audit(0)), 0);
    Check.due("altered and burnt, rotten: on neither", Check.answerAfter(y -> {
      one.accept(y);
      y.alter(0, 0, 9);
      y.burn(0, 0);
      y.rot(0, 0);
    }, y -> y.audit(0)), 0);
    Check.due("all legs altered to 0, in the book alone", Check.answerAfter(y -> {
      one.accept(y);
      y.alter(0, 0, 0);
      y.alter(0, 1, 0);
      y.rot(0, 0);
    }, y -> y.audit(0)), 1);
    Check.due("all legs altered to 0, in the copy alone", Check.answerAfter(y -> {
      Play.pages(y, 1);
      y.alter(0, 0, 0);
      y.alter(0, 1, 0);
      y.copy();
      y.burn(0, 0);
    }, y -> y.audit(0)), 1);
  }

  private static void auditNumbers() {
    int[] amounts = {1, 20, -20, -1};
    for (int leg = 0; leg < 4; leg++) {
      int altered = leg;
      LedgerKiln x = Check.after(y -> { Play.legs(y, 0, 1, 1, 20, 2, -20, 3, -1); y.write(0); y.copy(); });
      x.alter(0, altered, amounts[leg] + 1);
      Check.due("1 more in the book", x.audit(0), 1);
      x.copy();
      Check.due("1 more in both", x.audit(1), 0);
      x.alter(0, altered, amounts[leg]);
      Check.due("as written in both", x.audit(0), 0);
      Check.due("1 more in the copy", x.audit(1), 1);
      x.alter(0, altered, amounts[leg] - 1);
      Check.due("unlike in both", x.audit(1), 1);
    }
    LedgerKiln mark = Check.after(y -> {
      Play.page(y, 0, 1, 1, 5);
      y.copy();
      y.alter(0, 0, 59);
      y.alter(0, 1, 4664);
    });
    Check.due("the same mark", mark.audit(0), 1);
    LedgerKiln sum = Check.after(y -> { Play.page(y, 0, 1, 1, 5); y.copy(); y.alter(0, 0, 2); y.alter(0, 1, -2); });
    Check.due("0 together", sum.audit(0), 1);
    LedgerKiln restored = Check.after(y -> {
      Play.pages(y, 2);
      y.alter(1, 0, 9);
      y.copy();
      y.burn(0, 1);
      y.restore(0);
    });
    Check.due("one restored, one burnt still", restored.audit(0), 1);
  }
}
