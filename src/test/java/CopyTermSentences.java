import java.util.function.Consumer;

/** The sentences of 'Terms' on copies and on restoring, each with its boundary cases. */
final class CopyTermSentences {
  private static final String REFUSED = "IllegalStateException";
  private static final String NONE = "IndexOutOfBoundsException";

  private CopyTermSentences() {}

  static void all(Sentences s) {
    s.term("Copies are numbered from 0 on", CopyTermSentences::numbers);
    s.term("at most 16 are made", CopyTermSentences::mostCopies);
    s.term("none while a page of the book is burnt", CopyTermSentences::noneWhileBurnt);
    s.term("A full copy has all pages that there are", CopyTermSentences::fullCopy);
    s.term("a partial one is made from another copy, its base", CopyTermSentences::partialCopy);
    s.term("all pages that were written since the base was made", CopyTermSentences::sinceTheBase);
    s.term("then stands in the copy, true or not", CopyTermSentences::whatStands);
    s.term("of a struck page nothing stands there", CopyTermSentences::nothingOfStruck);
    s.term("The chain of a copy are it, its base, the base of that", CopyTermSentences::chain);
    s.term("A copy lies in the vault, as at first, or outside", CopyTermSentences::inVault);
    s.term("A page in a copy can rot", CopyTermSentences::rot);
    s.term("if all copies of its chain lie in the vault", CopyTermSentences::chainInVault);
    s.term("and none was thrown away", CopyTermSentences::noneThrownAway);
    s.term("and that in the book is burnt, or stands and is not true", CopyTermSentences::whoGets);
    s.term("gets what stands in that copy", CopyTermSentences::whatIsGot);
    s.term("Each page that some copy of the chain has", CopyTermSentences::allOfTheChain);
    s.term("if it is the base of no copy that was not thrown away", CopyTermSentences::thrownBase);
    s.term("is held by an open case", CopyTermSentences::thrownHeld);
  }

  private static void numbers() {
    LedgerKiln x = Check.after(y -> Play.pages(y, 1));
    Check.due("the first", x.copy(), 0);
    Check.due("a partial one", x.copyFrom(0), 1);
    Check.due("a full one", x.copy(), 2);
    x.throwAway(2);
    Check.due("the number of one thrown away does not come back", x.copy(), 3);
    x.throwAway(1);
    Check.due("nor that of a partial one", x.copyFrom(3), 4);
    Check.due("copies", x.copies(), 3);
  }

  private static void mostCopies() {
    LedgerKiln x = new LedgerKiln();
    for (int copy = 0; copy < 16; copy++) {
      Check.due("made", copy % 2 == 0 ? x.copy() : x.copyFrom(copy - 1), copy);
    }
    Check.due("copies", x.copies(), 16);
    Check.due("the last one is there", x.isInVault(15), true);
    Consumer<LedgerKiln> all = y -> Play.times(16, () -> y.copy());
    Check.refusesState("a 17th", all, y -> y.copy());
    Check.refusesState("a 17th, partial", all, y -> y.copyFrom(15));
    Consumer<LedgerKiln> none = y -> { for (int copy = 0; copy < 16; copy++) { y.throwAway(y.copy()); } };
    Check.refusesState("a 17th, all thrown away", none, y -> y.copy());
    Check.due("none is there", Check.after(none).copies(), 0);
    Consumer<LedgerKiln> one = y -> { all.accept(y); y.throwAway(4); };
    Check.refusesState("a 17th, partial, one thrown away", one, y -> y.copyFrom(15));
    LedgerKiln refused = Check.after(y -> { Play.pages(y, 1); y.copy(); y.burn(0, 0); });
    Play.times(20, () -> Check.answer(refused, y -> y.copy()));
    Play.times(20, () -> Check.answer(refused, y -> y.copyFrom(0)));
    refused.restore(0);
    Check.due("refused ones take no number", refused.copy(), 1);
  }

  private static void noneWhileBurnt() {
    Consumer<LedgerKiln> three = y -> { Play.pages(y, 3); y.copy(); };
    for (int burnt = 0; burnt < 3; burnt++) {
      int page = burnt;
      Check.refusesState("a full one, burnt " + page, y -> { three.accept(y); y.burn(page, page); }, y -> y.copy());
      Check.refusesState("a partial one, burnt " + page,
          y -> { three.accept(y); y.burn(page, page); }, y -> y.copyFrom(0));
    }
    LedgerKiln x = Check.after(y -> { three.accept(y); y.burn(0, 2); y.rot(0, 1); y.restore(0); });
    Check.due("one is burnt still", Check.answer(x, y -> y.copy()), REFUSED);
    LedgerKiln restored = Check.after(y -> { three.accept(y); y.burn(0, 2); y.restore(0); });
    Check.due("restored", restored.copy(), 1);
    Check.due("struck is not burnt",
        Check.answerAfter(y -> { three.accept(y); y.strike(y.open(), 0); }, y -> y.copy()), 1);
    Check.due("struck is not burnt, a partial one",
        Check.answerAfter(y -> { three.accept(y); y.strike(y.open(), 0); }, y -> y.copyFrom(0)), 1);
    Check.due("altered is not burnt",
        Check.answerAfter(y -> { three.accept(y); y.alter(0, 0, 0); }, y -> y.copy()), 1);
    Check.due("struck pages did not burn",
        Check.answerAfter(y -> { three.accept(y); y.strike(y.open(), 1); y.burn(1, 1); }, y -> y.copy()), 1);
  }

  private static void fullCopy() {
    Check.due("no pages", Check.answerAfter(y -> y.copy(), y -> y.size(0)), 0);
    Check.due("no page of it", Check.answerAfter(y -> { y.copy(); Play.pages(y, 1); }, y -> y.stands(0, 0)), NONE);
    LedgerKiln one = Check.after(y -> { Play.pages(y, 1); y.copy(); });
    Check.due("one page", one.size(0), 1);
    Check.due("it stands", one.stands(0, 0), true);
    LedgerKiln x = Check.after(y -> { Play.fullBook(y); y.copy(); });
    Check.due("80 pages", x.size(0), 80);
    Check.due("the first", x.stands(0, 0), true);
    Check.due("the last", x.stands(0, 79), true);
    LedgerKiln later = Check.after(y -> { Play.pages(y, 2); y.copy(); Play.pages(y, 1); });
    Check.due("none that is written later", later.size(0), 2);
    Check.due("it does not have it", Check.answer(later, y -> y.stands(0, 2)), NONE);
    later.copy();
    Check.due("another full one has all", later.size(1), 3);
  }

  private static void partialCopy() {
    LedgerKiln x = Check.after(y -> { Play.pages(y, 2); y.copy(); Play.pages(y, 3); });
    Check.due("from a full one", x.copyFrom(0), 1);
    Check.due("its pages", x.size(1), 3);
    Play.pages(x, 1);
    Check.due("from a partial one", x.copyFrom(1), 2);
    Check.due("its pages", x.size(2), 1);
    Check.due("it stands", x.stands(2, 5), true);
    Check.due("none of its base", Check.answer(x, y -> y.stands(2, 4)), NONE);
    Check.due("none of the base of that", Check.answer(x, y -> y.stands(2, 0)), NONE);
    Check.due("the base is one now", Check.answer(x, y -> y.throwAway(0)), REFUSED);
    Edges.noSuch("base", 1, y -> y.copy(), (y, base) -> y.copyFrom(base));
  }

  private static void sinceTheBase() {
    LedgerKiln x = Check.after(y -> { Play.pages(y, 2); y.copy(); });
    x.copyFrom(0);
    Check.due("nothing written since", x.size(1), 0);
    Check.due("none of the base", Check.answer(x, y -> y.stands(1, 1)), NONE);
    Play.pages(x, 1);
    Check.due("the empty one stays empty", x.size(1), 0);
    x.copyFrom(1);
    Check.due("since the empty one was made", x.size(2), 1);
    Play.pages(x, 1);
    x.copyFrom(0);
    Check.due("since the first was made, not since the last one", x.size(3), 2);
    Check.due("the first of them", x.stands(3, 2), true);
    Check.due("the last of them", x.stands(3, 3), true);
    Check.due("not the last one of the base", Check.answer(x, y -> y.stands(3, 1)), NONE);
    LedgerKiln all = Check.after(y -> { y.copy(); Play.fullBook(y); });
    all.copyFrom(0);
    Check.due("80 pages since", all.size(1), 80);
    all.copyFrom(1);
    Check.due("none since the book was full", all.size(2), 0);
  }

  private static void whatStands() {
    Consumer<LedgerKiln> two = y -> { Play.pages(y, 2); y.alter(1, 0, 9); };
    LedgerKiln x = Check.after(y -> { two.accept(y); y.copy(); });
    Check.due("a true one", x.stands(0, 0), true);
    Check.due("one that is not", x.stands(0, 1), true);
    Check.due("the same as in the book", x.audit(0), 0);
    x.alter(1, 0, 2);
    Check.due("the book alone is true again", x.audit(0), 1);
    x.alter(1, 0, 9);
    Check.due("the same again", x.audit(0), 0);
    x.burn(0, 1);
    Check.due("what is not true is lost", x.lost(), 1);
    LedgerKiln part = Check.after(y -> { y.copy(); two.accept(y); y.copyFrom(0); });
    Check.due("partial: a true one", part.stands(1, 0), true);
    Check.due("partial: one that is not", part.stands(1, 1), true);
    Check.due("partial: the same as in the book", part.audit(1), 0);
    part.alter(1, 1, 0);
    Check.due("partial: what the book tells later is not in it", part.audit(1), 1);
  }

  private static void nothingOfStruck() {
    Consumer<LedgerKiln> three = y -> { Play.pages(y, 3); y.strike(y.open(), 1); };
    LedgerKiln x = Check.after(y -> { three.accept(y); y.copy(); });
    Check.due("it has the page", x.size(0), 3);
    Check.due("nothing stands there", x.stands(0, 1), false);
    Check.due("something on the others", x.stands(0, 0) && x.stands(0, 2), true);
    Check.due("nothing to rot", x.rot(0, 1), false);
    Check.due("in no copy", x.copiesOf(1), 0);
    LedgerKiln part = Check.after(y -> { y.copy(); three.accept(y); y.copyFrom(0); });
    Check.due("partial: it has the page", part.size(1), 3);
    Check.due("partial: nothing stands there", part.stands(1, 1), false);
    Check.due("partial: something on the others", part.stands(1, 0) && part.stands(1, 2), true);
  }

  /** 16 copies, each made from the one ahead of it, with a page each, 0 to 15; all burnt. */
  private static void longChain(LedgerKiln x) {
    Play.pages(x, 1);
    x.copy();
    for (int copy = 1; copy < 16; copy++) {
      Play.page(x, 0, 1, copy, copy);
      x.copyFrom(copy - 1);
    }
    x.burn(0, 15);
  }

  private static void chain() {
    Check.due("all 16", Check.after(CopyTermSentences::longChain).restore(15), 16);
    Check.due("the first alone", Check.after(CopyTermSentences::longChain).restore(0), 1);
    Check.due("the first 8", Check.after(CopyTermSentences::longChain).restore(7), 8);
    for (int out = 0; out < 16; out++) {
      int copy = out;
      LedgerKiln x = Check.after(y -> { longChain(y); y.carry(copy, false); });
      Check.due("one outside: the last", x.canRestore(15), false);
      Check.due("one outside: the first", x.canRestore(0), copy > 0);
      Check.due("one outside: itself", x.canRestore(copy), false);
      Check.due("one outside: its base", copy == 0 || x.canRestore(copy - 1), true);
    }
    LedgerKiln two = Check.after(y -> { Play.pages(y, 1); y.copy(); y.copy(); y.copyFrom(1); y.carry(0, false); });
    Check.due("a copy beside the chain", two.canRestore(2), true);
    two.carry(1, false);
    Check.due("a copy of the chain", two.canRestore(2), false);
    LedgerKiln branches = Check.after(y -> {
      Play.pages(y, 1);
      y.copy();
      y.copyFrom(0);
      y.copyFrom(0);
      y.carry(1, false);
    });
    Check.due("another copy from the same base", branches.canRestore(2), true);
  }

  private static void inVault() {
    LedgerKiln x = Check.after(y -> { Play.pages(y, 1); y.copy(); });
    Check.due("at first", x.isInVault(0), true);
    x.carry(0, false);
    Check.due("outside", x.isInVault(0), false);
    x.carry(0, false);
    Check.due("outside still", x.isInVault(0), false);
    x.copyFrom(0);
    Check.due("a partial one at first, its base outside", x.isInVault(1), true);
    x.carry(0, true);
    Check.due("back", x.isInVault(0), true);
    x.carry(0, true);
    Check.due("in the vault still", x.isInVault(0), true);
  }

  private static void rot() {
    LedgerKiln x = Check.after(y -> { Play.pages(y, 3); y.copy(); y.copy(); });
    Check.due("the first", x.rot(0, 0), true);
    Check.due("the last", x.rot(0, 2), true);
    Check.due("nothing there", x.stands(0, 0) || x.stands(0, 2), false);
    Check.due("the one between", x.stands(0, 1), true);
    Check.due("the other copy", x.copiesOf(0), 1);
    x.burn(0, 2);
    Check.due("it is not restored", x.restore(0), 1);
    Check.due("it is from the other copy", x.restore(1), 2);
    x.carry(0, false);
    x.carry(0, true);
    Check.due("it does not come back", x.stands(0, 0), false);
    LedgerKiln untrue = Check.after(y -> { Play.pages(y, 1); y.alter(0, 0, 5); y.copy(); });
    Check.due("one that is not true", untrue.rot(0, 0), true);
    Check.due("is gone", untrue.copiesOf(0), 0);
  }

  private static void chainInVault() {
    Consumer<LedgerKiln> three = y -> {
      Play.pages(y, 1);
      y.copy();
      Play.pages(y, 1);
      y.copyFrom(0);
      Play.pages(y, 1);
      y.copyFrom(1);
      y.burn(0, 2);
    };
    for (int out = 0; out < 3; out++) {
      int copy = out;
      Consumer<LedgerKiln> outside = y -> { three.accept(y); y.carry(copy, false); };
      Check.refusesState("outside: " + copy, outside, y -> y.restore(2));
      Check.due("can not", Check.after(outside).canRestore(2), false);
      LedgerKiln back = Check.after(y -> { outside.accept(y); y.carry(copy, true); });
      Check.due("back: can", back.canRestore(2), true);
      Check.due("back: does", back.restore(2), 3);
    }
    Check.due("all in the vault", Check.after(three).restore(2), 3);
    Check.due("a later one outside",
        Check.answerAfter(y -> { three.accept(y); y.carry(2, false); }, y -> y.restore(1)), 2);
    Check.due("nothing to get is no hindrance", Check.answerAfter(y -> y.copy(), y -> y.restore(0)), 0);
    Check.due("nothing to get, it can", Check.answerAfter(y -> y.copy(), y -> y.canRestore(0)), true);
  }

  private static void noneThrownAway() {
    Consumer<LedgerKiln> two = y -> { Play.pages(y, 1); y.copy(); Play.pages(y, 1); y.copyFrom(0); y.burn(0, 1); };
    LedgerKiln x = Check.after(two);
    Check.due("a base is not thrown away", Check.answer(x, y -> y.throwAway(0)), REFUSED);
    Check.due("so the chain is whole", x.restore(1), 2);
    Check.refusesIndex("thrown away itself", y -> { two.accept(y); y.throwAway(1); }, y -> y.restore(1));
    Check.refusesIndex("thrown away itself, can", y -> { two.accept(y); y.throwAway(1); }, y -> y.canRestore(1));
    Check.due("what was made from it thrown away",
        Check.answerAfter(y -> { two.accept(y); y.throwAway(1); }, y -> y.restore(0)), 1);
  }

  /**
   * Pages 0 to 2 are true in the copy 0, 3 to 5 not true, of 6 to 8 nothing stands there, 9 to 11
   * it does not have; each first one is true in the book, each second one altered, each third burnt.
   */
  private static void twelve(LedgerKiln x) {
    Play.pages(x, 9);
    for (int page = 3; page < 6; page++) {
      x.alter(page, 1, 0);
    }
    x.copy();
    x.alter(3, 1, -4);
    for (int page = 6; page < 9; page++) {
      x.rot(0, page);
    }
    Play.pages(x, 3);
    for (int page = 0; page < 12; page += 3) {
      x.alter(page + 1, 0, 99);
      x.burn(page + 2, page + 2);
    }
  }

  private static void whoGets() {
    LedgerKiln x = Check.after(CopyTermSentences::twelve);
    Check.due("how many get", x.restore(0), 2);
    for (int page = 0; page < 12; page++) {
      boolean gets = page == 1 || page == 2;
      Check.due("true, " + page, x.isTrue(page), page % 3 == 0 || gets);
      Check.due("state, " + page, x.state(page), page % 3 == 2 && !gets ? 1 : 0);
    }
    Check.due("an altered one that gets nothing stays", x.alter(4, 0, 0), 99);
    Check.due("in the copy nothing changes", x.copiesOf(0), 1);
    Check.due("nothing more to get", x.restore(0), 0);
    LedgerKiln same = Check.after(y -> { Play.pages(y, 1); y.alter(0, 0, 9); y.copy(); });
    Check.due("not true, the same in both", same.restore(0), 0);
    LedgerKiln struck = Check.after(y -> {
      Play.pages(y, 2);
      y.copy();
      y.carry(0, false);
      y.strike(y.open(), 0);
      y.burn(0, 1);
    });
    Check.due("struck, it stands outside", struck.stands(0, 0), true);
    Check.due("struck, it came back", struck.carry(0, true), 1);
    Check.due("struck, it gets nothing", struck.restore(0), 1);
    Check.due("struck for good", struck.state(0), 2);
  }

  private static void whatIsGot() {
    Consumer<LedgerKiln> four = y -> { Play.legs(y, 0, 1, 1, 20, 2, -20, 3, -1); y.write(9999); y.copy(); };
    LedgerKiln altered = Check.after(y -> {
      four.accept(y);
      for (int leg = 0; leg < 4; leg++) {
        y.alter(0, leg, 10000);
      }
    });
    Check.due("all legs altered", altered.restore(0), 1);
    int[] amounts = {1, 20, -20, -1};
    for (int leg = 0; leg < 4; leg++) {
      Check.due("leg " + leg, altered.alter(0, leg, 7), amounts[leg]);
    }
    Check.due("the copy is another sheet", altered.restore(0), 1);
    Check.due("as it was written again", altered.isTrue(0), true);
    LedgerKiln burnt = Check.after(y -> { four.accept(y); y.alter(0, 2, 5); y.burn(0, 0); });
    Check.due("altered, then burnt", burnt.restore(0), 1);
    Check.due("it stands then", burnt.state(0), 0);
    Check.due("it is true", burnt.isTrue(0), true);
    Check.due("its text", burnt.text(0), 9999);
    Check.due("it can be struck", burnt.strike(burnt.open(), 0), 0);
    Check.due("it can be reversed",
        Check.answerAfter(y -> { four.accept(y); y.burn(0, 0); y.restore(0); }, y -> y.reverse(0)), 1);
    LedgerKiln outside = Check.after(y -> { four.accept(y); y.copy(); y.carry(1, false); y.burn(0, 0); });
    Check.due("only where it is in the vault", Check.answer(outside, y -> y.restore(1)), REFUSED);
  }

  private static void allOfTheChain() {
    Consumer<LedgerKiln> chain = y -> {
      Play.pages(y, 2);
      y.copy();
      y.copy();
      Play.pages(y, 2);
      y.copyFrom(0);
      Play.pages(y, 2);
      y.copyFrom(2);
      Play.pages(y, 1);
      y.burn(0, 6);
    };
    LedgerKiln x = Check.after(chain);
    Check.due("pages of all three", x.restore(3), 6);
    Check.due("not what was written later", x.state(6), 1);
    LedgerKiln rotten = Check.after(y -> { chain.accept(y); y.rot(0, 1); y.rot(2, 2); y.rot(3, 5); });
    Check.due("one rotten in each", rotten.restore(3), 3);
    Check.due("not from a copy beside the chain", rotten.state(1), 1);
    Check.due("from that copy", rotten.restore(1), 1);
    Check.due("from the middle", Check.after(chain).restore(2), 4);
  }

  private static void thrownBase() {
    Consumer<LedgerKiln> three = y -> { y.copy(); y.copyFrom(0); y.copyFrom(0); };
    Check.refusesState("base of two", three, y -> y.throwAway(0));
    Check.refusesState("base of one", y -> { three.accept(y); y.throwAway(1); }, y -> y.throwAway(0));
    Check.refusesState("base of the other one", y -> { three.accept(y); y.throwAway(2); }, y -> y.throwAway(0));
    LedgerKiln x = Check.after(three);
    Check.due("base of none", x.throwAway(1), 2);
    Check.due("base of none, too", x.throwAway(2), 1);
    Check.due("base of none any more", x.throwAway(0), 0);
    Check.refusesState("base of one outside",
        y -> { three.accept(y); y.throwAway(1); y.carry(2, false); }, y -> y.throwAway(0));
    Check.refusesState("a base outside", y -> { three.accept(y); y.carry(0, false); }, y -> y.throwAway(0));
    LedgerKiln chain = Check.after(y -> { y.copy(); y.copyFrom(0); y.copyFrom(1); });
    Check.due("the middle", Check.answer(chain, y -> y.throwAway(1)), REFUSED);
    Check.due("the last", chain.throwAway(2), 2);
    Check.due("the middle, the last thrown away", chain.throwAway(1), 1);
    LedgerKiln last = Check.after(y -> { Play.times(15, () -> y.copy()); y.copyFrom(14); });
    Check.due("base of the 16th", Check.answer(last, y -> y.throwAway(14)), REFUSED);
  }

  private static void thrownHeld() {
    Consumer<LedgerKiln> part = y -> {
      y.pass(5);
      Play.page(y, 0, 1, 1, 0);
      y.copy();
      y.pass(1);
      Play.page(y, 2, 3, 1, 0);
      Play.page(y, 4, 5, 1, 0);
      Play.page(y, 6, 7, 1, 0);
      y.copyFrom(0);
      y.open();
      y.open();
    };
    for (int account = 2; account < 8; account++) {
      int held = account;
      Check.refusesState("held for " + held, y -> { part.accept(y); y.hold(1, held, 6, 6); }, y -> y.throwAway(1));
    }
    Check.due("a page of its base is held",
        Check.answerAfter(y -> { part.accept(y); y.hold(1, 0, 0, 400); }, y -> y.throwAway(1)), 1);
    Check.due("a page written later is held", Check.answerAfter(y -> {
      part.accept(y);
      Play.page(y, 0, 0, 1, 0);
      y.hold(1, 0, 6, 6);
    }, y -> y.throwAway(1)), 1);
    Check.due("the day ahead",
        Check.answerAfter(y -> { part.accept(y); y.hold(1, 2, 0, 5); }, y -> y.throwAway(1)), 1);
    Check.due("the day behind",
        Check.answerAfter(y -> { part.accept(y); y.hold(1, 2, 7, 400); }, y -> y.throwAway(1)), 1);
    Consumer<LedgerKiln> held = y -> { part.accept(y); y.hold(1, 7, 0, 400); };
    Check.due("nothing stands there any more",
        Check.answerAfter(y -> { held.accept(y); y.rot(1, 3); }, y -> y.throwAway(1)), 1);
    Check.due("the case is closed", Check.answerAfter(y -> { held.accept(y); y.close(1); }, y -> y.throwAway(1)), 1);
    Check.due("struck", Check.answerAfter(y -> { held.accept(y); y.strike(1, 3); }, y -> y.throwAway(1)), 1);
    Check.refusesState("another case is closed", y -> { held.accept(y); y.close(0); }, y -> y.throwAway(1));
    Check.refusesState("burnt in the book", y -> { held.accept(y); y.burn(3, 3); }, y -> y.throwAway(1));
    Check.refusesState("outside", y -> { held.accept(y); y.carry(1, false); }, y -> y.throwAway(1));
    Check.refusesState("struck, it stands outside",
        y -> { held.accept(y); y.carry(1, false); y.strike(1, 3); }, y -> y.throwAway(1));
    Check.due("struck, it came back", Check.answerAfter(y -> {
      held.accept(y);
      y.carry(1, false);
      y.strike(1, 3);
      y.carry(1, true);
    }, y -> y.throwAway(1)), 1);
    Check.refusesState("not true where it stands", y -> {
      y.copy();
      Play.page(y, 0, 1, 1, 0);
      y.alter(0, 0, 0);
      y.copyFrom(0);
      y.hold(y.open(), 0, 0, 0);
    }, y -> y.throwAway(1));
    Check.due("no pages", Check.answerAfter(y -> { held.accept(y); y.copyFrom(1); }, y -> y.throwAway(2)), 2);
  }
}
