import java.util.function.Consumer;

/** The sentences of 'Terms' on the court, each with its boundary cases. */
final class CourtTermSentences {
  private static final String REFUSED = "IllegalStateException";

  private CourtTermSentences() {}

  static void all(Sentences s) {
    s.term("Cases are numbered from 0 on; at most 8 are opened", CourtTermSentences::numbers);
    s.term("a case is open until it is closed", CourtTermSentences::openUntilClosed);
    s.term("A case can hold an account for a span of days", CourtTermSentences::spans);
    s.term("at most 30 holds are told", CourtTermSentences::mostHolds);
    s.term("A page is held by a case that is open", CourtTermSentences::heldByOpen);
    s.term("if the page is written on a day of such a span", CourtTermSentences::heldOnDays);
    s.term("and has a leg for the account", CourtTermSentences::heldForLegs);
    s.term("what counts are the legs as they were written", CourtTermSentences::heldAsWritten);
    s.term("An open case strikes a page that stands and is true in the book", CourtTermSentences::strikes);
    s.term("if no other case holds it", CourtTermSentences::noOtherHolds);
    s.term("Its proof is for good: the mark, the day", CourtTermSentences::proof);
    s.term("for each account the sum of the amounts of its legs", CourtTermSentences::sums);
    s.term("Nothing stands on the page in the book any more", CourtTermSentences::goneFromBook);
    s.term("and neither in any copy in the vault", CourtTermSentences::goneFromVault);
    s.term("loses what stands there on struck pages when it comes back", CourtTermSentences::goneWhenBack);
  }

  private static void numbers() {
    LedgerKiln x = new LedgerKiln();
    for (int lawsuit = 0; lawsuit < 8; lawsuit++) {
      Check.due("opened", x.open(), lawsuit);
    }
    Check.refusesState("a ninth", y -> Play.times(8, () -> y.open()), y -> y.open());
    Consumer<LedgerKiln> closed = y -> { for (int i = 0; i < 8; i++) { y.close(y.open()); } };
    Check.refusesState("a ninth, all are closed", closed, y -> y.open());
    Check.due("the number of a closed one does not come back",
        Check.answerAfter(y -> { y.open(); y.close(0); }, y -> y.open()), 1);
  }

  private static void openUntilClosed() {
    LedgerKiln x = Check.after(y -> { Play.pages(y, 2); Play.times(8, () -> y.open()); });
    for (int lawsuit = 0; lawsuit < 8; lawsuit++) {
      Check.due("open", x.isOpen(lawsuit), true);
    }
    x.strike(7, 0);
    Play.until(x, 400);
    Check.due("open behind a strike and days", x.isOpen(7), true);
    x.close(7);
    Check.due("closed", x.isOpen(7), false);
    Check.due("the one beside it", x.isOpen(6), true);
    Check.due("closed for good", Check.answer(x, y -> y.close(7)), REFUSED);
    Check.due("closed: strike", Check.answer(x, y -> y.strike(7, 1)), REFUSED);
    Check.due("closed: hold", Check.answer(x, y -> y.hold(7, 0, 0, 0)), REFUSED);
    Check.due("closed still", x.isOpen(7), false);
  }

  private static void spans() {
    LedgerKiln x = Check.after(y -> {
      Play.page(y, 0, 1, 1, 0);
      Play.until(y, 400);
      Play.page(y, 0, 1, 1, 0);
      y.open();
    });
    Check.due("no hold", x.holders(0) + x.holders(1), 0);
    Check.due("the first day alone", x.hold(0, 0, 0, 0), 1);
    Check.due("the last day too", x.hold(0, 0, 400, 400), 2);
    Check.due("between them", x.hold(0, 0, 1, 399), 2);
    LedgerKiln all = Check.after(y -> {
      Play.page(y, 0, 1, 1, 0);
      Play.until(y, 400);
      Play.page(y, 0, 1, 1, 0);
      y.open();
    });
    Check.due("between them alone", all.hold(0, 0, 1, 399), 0);
    Check.due("all days", all.hold(0, 1, 0, 400), 2);
    LedgerKiln later = Check.after(y -> { y.hold(y.open(), 3, 7, 9); });
    Play.until(later, 6);
    Play.page(later, 2, 3, 1, 0);
    Check.due("written later, ahead of the span", later.holders(0), 0);
    for (int day = 7; day <= 9; day++) {
      Play.until(later, day);
      Check.due("written later, on the day " + day, later.holders(Play.page(later, 2, 3, 1, 0)), 1);
    }
    later.pass(1);
    Check.due("written later, behind the span", later.holders(Play.page(later, 2, 3, 1, 0)), 0);
  }

  private static void mostHolds() {
    LedgerKiln x = Check.after(y -> { Play.pages(y, 1); y.open(); y.open(); });
    for (int hold = 0; hold < 29; hold++) {
      Check.due("a hold", x.hold(hold % 2, 7, 0, 400), 0);
    }
    Check.due("the 30th holds", x.hold(0, 1, 0, 0), 1);
    Check.due("a 31st", Check.answer(x, y -> y.hold(1, 1, 0, 0)), REFUSED);
    Check.due("a 31st is no hold", x.holders(0), 1);
    Consumer<LedgerKiln> full = y -> { Play.pages(y, 1); y.open(); Play.times(30, () -> y.hold(0, 0, 0, 0)); };
    Check.refusesState("a 31st, of another case", y -> { full.accept(y); y.open(); }, y -> y.hold(1, 0, 0, 0));
    Check.refusesState("a 31st, the case of all is closed",
        y -> { full.accept(y); y.open(); y.close(0); }, y -> y.hold(1, 0, 0, 0));
    LedgerKiln refused = Check.after(y -> { Play.pages(y, 1); y.open(); });
    Play.times(40, () -> Check.answer(refused, y -> y.hold(0, 0, 1, 0)));
    Play.times(29, () -> refused.hold(0, 7, 0, 0));
    Check.due("refused ones are not told", refused.hold(0, 0, 0, 0), 1);
  }

  private static void heldByOpen() {
    LedgerKiln x = Check.after(y -> { Play.pages(y, 1); Play.times(8, () -> y.open()); });
    for (int lawsuit = 0; lawsuit < 8; lawsuit++) {
      x.hold(lawsuit, 0, 0, 0);
    }
    Check.due("by all", x.holders(0), 255);
    for (int lawsuit = 0; lawsuit < 8; lawsuit++) {
      x.close(lawsuit);
      Check.due("without those closed", x.holders(0), 255 & -(2 << lawsuit));
    }
    LedgerKiln none = Check.after(y -> { Play.pages(y, 1); y.open(); });
    Check.due("no hold", none.holders(0), 0);
  }

  private static void heldOnDays() {
    LedgerKiln x = new LedgerKiln();
    for (int day = 3; day <= 7; day++) {
      Play.until(x, day);
      Play.page(x, 0, 1, 1, 0);
    }
    Check.due("on the days 4 to 6", x.hold(x.open(), 0, 4, 6), 3);
    int[] due = {0, 1, 1, 1, 0};
    for (int page = 0; page < 5; page++) {
      Check.due("of the day " + (page + 3), x.holders(page), due[page]);
    }
    Check.due("another span, two days between them", x.hold(0, 1, 7, 7), 4);
    Check.due("not its account on that day", x.hold(x.open(), 2, 3, 7), 0);
    LedgerKiln reversal = Check.after(y -> { Play.pages(y, 1); y.pass(2); y.reverse(0); y.hold(y.open(), 0, 2, 2); });
    Check.due("a reversal has its own day", reversal.holders(1), 1);
    Check.due("not that of its page", reversal.holders(0), 0);
  }

  private static void heldForLegs() {
    Consumer<LedgerKiln> four = y -> { Play.legs(y, 1, 1, 3, 2, 5, 3, 7, -6); y.write(0); y.open(); };
    for (int account = 0; account < 8; account++) {
      LedgerKiln x = Check.after(four);
      Check.due("held for " + account, x.hold(0, account, 0, 0), account % 2);
    }
    Check.due("its legs are 0 together",
        Check.answerAfter(y -> { Play.page(y, 6, 6, 4, 0); y.open(); }, y -> y.hold(0, 6, 0, 0)), 1);
    Check.due("another one has 4 legs, it has 2", Check.answerAfter(y -> {
      four.accept(y);
      Play.page(y, 0, 2, 1, 0);
    }, y -> y.hold(0, 0, 0, 0)), 1);
    Check.due("the accounts of two holds are not mixed", Check.answerAfter(y -> {
      Play.page(y, 0, 1, 1, 0);
      y.pass(1);
      Play.page(y, 2, 3, 1, 0);
      y.open();
      y.hold(0, 0, 1, 1);
    }, y -> y.hold(0, 2, 0, 0)), 0);
  }

  private static void heldAsWritten() {
    LedgerKiln x = Check.after(y -> { Play.pages(y, 4); y.alter(0, 0, 0); y.burn(1, 1); y.strike(y.open(), 2); });
    Check.due("altered, burnt and struck too", x.hold(0, 0, 0, 0), 4);
    for (int page = 0; page < 4; page++) {
      Check.due("held", x.holders(page), 1);
    }
    Check.due("by that, when it is closed", x.close(0), 4);
  }

  private static void strikes() {
    Consumer<LedgerKiln> two = y -> { Play.pages(y, 2); y.copy(); y.open(); y.open(); };
    LedgerKiln x = Check.after(two);
    Check.due("it stands and is true", x.strike(0, 0), 0);
    Check.due("the other one", x.strike(0, 1), 0);
    Check.refusesState("struck", y -> { two.accept(y); y.strike(0, 0); }, y -> y.strike(1, 0));
    Check.refusesState("burnt", y -> { two.accept(y); y.burn(0, 0); }, y -> y.strike(0, 0));
    Check.refusesState("altered by 1", y -> { two.accept(y); y.alter(0, 0, 2); }, y -> y.strike(0, 0));
    Check.refusesState("closed", y -> { two.accept(y); y.close(0); }, y -> y.strike(0, 0));
    Check.due("the other case is closed",
        Check.answerAfter(y -> { two.accept(y); y.close(0); }, y -> y.strike(1, 0)), 0);
    Check.due("altered back", Check.answerAfter(y -> {
      two.accept(y);
      y.alter(0, 0, 2);
      y.alter(0, 0, 1);
    }, y -> y.strike(0, 0)), 0);
    Check.due("restored",
        Check.answerAfter(y -> { two.accept(y); y.burn(0, 0); y.restore(0); }, y -> y.strike(0, 0)), 0);
    LedgerKiln reversed = Check.after(y -> { two.accept(y); y.reverse(0); });
    Check.due("reversed", reversed.strike(0, 0), 0);
    Check.due("a reversal", reversed.strike(0, 2), 0);
  }

  private static void noOtherHolds() {
    Consumer<LedgerKiln> held = y -> {
      y.pass(5);
      Play.page(y, 0, 1, 1, 0);
      Play.times(8, () -> y.open());
    };
    Check.due("held by none", Check.after(held).strike(3, 0), 0);
    Check.due("held by itself",
        Check.answerAfter(y -> { held.accept(y); y.hold(3, 0, 5, 5); }, y -> y.strike(3, 0)), 0);
    for (int other = 0; other < 8; other++) {
      int holder = other;
      int striker = (other + 1) % 8;
      Check.refusesState("held by " + holder,
          y -> { held.accept(y); y.hold(holder, 1, 0, 5); }, y -> y.strike(striker, 0));
    }
    Check.refusesState("held by itself and by another",
        y -> { held.accept(y); y.hold(3, 0, 5, 5); y.hold(4, 0, 5, 5); }, y -> y.strike(3, 0));
    Check.due("the other one closed", Check.answerAfter(y -> {
      held.accept(y);
      y.hold(4, 0, 5, 5);
      y.close(4);
    }, y -> y.strike(3, 0)), 0);
    Check.due("another account held",
        Check.answerAfter(y -> { held.accept(y); y.hold(4, 2, 0, 400); }, y -> y.strike(3, 0)), 0);
    Check.due("the day ahead held",
        Check.answerAfter(y -> { held.accept(y); y.hold(4, 0, 0, 4); }, y -> y.strike(3, 0)), 0);
    Check.due("the day behind held",
        Check.answerAfter(y -> { held.accept(y); y.hold(4, 0, 6, 400); }, y -> y.strike(3, 0)), 0);
  }

  private static void proof() {
    LedgerKiln x = Check.after(y -> {
      y.pass(9);
      Play.page(y, 0, 1, 30, 7);
      y.copy();
      y.pass(1);
      y.strike(y.open(), 0);
    });
    int mark = Play.markOf(9, 7, 0, 30, 1, -30);
    Check.due("mark", x.mark(0), mark);
    Check.due("no balance ahead of the day", x.balanceByPages(0, 8), 0);
    Check.due("balance on the day", x.balanceByPages(0, 9), 30);
    Play.legs(x, 0, 30, 1, -30);
    Check.due("proves it", x.proves(0, 7), true);
    x.close(0);
    x.burn(0, 0);
    x.restore(0);
    x.throwAway(0);
    Play.until(x, 400);
    Check.due("for good: mark", x.mark(0), mark);
    Check.due("for good: sum", x.proven(0, 1), -30);
    Check.due("for good: day", x.balanceByCopies(0, 8), 0);
    Check.due("for good: balance", x.balanceByCopies(0, 9), 30);
    Check.due("for good: it proves", x.proves(0, 7), true);
  }

  private static void sums() {
    LedgerKiln x = Check.after(y -> {
      Play.legs(y, 0, 10000, 0, 10000, 7, -10000, 7, -10000);
      y.write(0);
      Play.legs(y, 3, 5, 4, -8, 3, 1, 4, 2);
      y.write(0);
      Play.page(y, 6, 6, 9, 0);
      y.open();
    });
    for (int page = 0; page < 3; page++) {
      Check.due("ahead of the strike", x.proven(page, 0) + x.proven(page, 3), 0);
      x.strike(0, page);
    }
    Check.due("the most", x.proven(0, 0), 20000);
    Check.due("the least", x.proven(0, 7), -20000);
    Check.due("no leg for it", x.proven(0, 3), 0);
    Check.due("two legs", x.proven(1, 3), 6);
    Check.due("two legs of both signs", x.proven(1, 4), -6);
    Check.due("two legs that are 0 together", x.proven(2, 6), 0);
  }

  private static void goneFromBook() {
    LedgerKiln x = Check.after(y -> { Play.pages(y, 3); y.copy(); y.strike(y.open(), 1); });
    Check.due("state", x.state(1), 2);
    Check.due("text", x.text(1), -1);
    Check.due("true", x.isTrue(1), false);
    Check.due("burns no more", x.burn(1, 1), 0);
    Check.due("no leg to alter", Check.answer(x, y -> y.alter(1, 0, 0)), REFUSED);
    Check.due("not to be reversed", Check.answer(x, y -> y.reverse(1)), REFUSED);
    Check.due("no gap", x.gaps(), 0);
    Check.due("not lost", x.lost(), 0);
    Check.due("a restore brings nothing back", x.restore(0), 0);
    Check.due("still struck", x.state(1), 2);
    Check.due("those beside it stand", x.isTrue(0) && x.isTrue(2), true);
  }

  private static void goneFromVault() {
    LedgerKiln x = Check.after(y -> {
      Play.pages(y, 2);
      Play.times(15, () -> y.copy());
      y.carry(3, false);
      y.carry(3, true);
      y.carry(4, false);
    });
    Check.due("strike", x.strike(x.open(), 1), 1);
    for (int copy = 0; copy < 15; copy++) {
      Check.due("it stands in " + copy, x.stands(copy, 1), copy == 4);
      Check.due("the one beside it stands", x.stands(copy, 0), true);
    }
    x.copy();
    Check.due("in a later one neither", x.stands(15, 1), false);
    LedgerKiln part = Check.after(y -> {
      Play.pages(y, 1);
      y.copy();
      Play.pages(y, 1);
      y.copyFrom(0);
      y.strike(y.open(), 1);
    });
    Check.due("in a partial one", part.stands(1, 1), false);
    Check.due("its base keeps the other page", part.stands(0, 0), true);
    LedgerKiln untrue = Check.after(y -> {
      Play.pages(y, 1);
      y.alter(0, 0, 5);
      y.copy();
      y.alter(0, 0, 1);
      y.strike(y.open(), 0);
    });
    Check.due("what is not true there is gone too", untrue.stands(0, 0), false);
  }

  private static void goneWhenBack() {
    LedgerKiln x = Check.after(y -> {
      Play.pages(y, 4);
      y.copy();
      y.carry(0, false);
      y.open();
      y.strike(0, 0);
      y.strike(0, 3);
      y.burn(1, 1);
    });
    Check.due("outside it stands", x.stands(0, 0) && x.stands(0, 3), true);
    Check.due("outside it stays so", x.carry(0, false), 0);
    Check.due("outside it stands still", x.copiesOf(0), 1);
    Check.due("it comes back", x.carry(0, true), 2);
    Check.due("gone", x.stands(0, 0) || x.stands(0, 3), false);
    Check.due("burnt pages stand there", x.stands(0, 1), true);
    Check.due("others stand there", x.stands(0, 2), true);
    x.carry(0, false);
    Check.due("gone for good", x.stands(0, 0), false);
    LedgerKiln untrue = Check.after(y -> {
      Play.pages(y, 1);
      y.alter(0, 0, 5);
      y.copy();
      y.alter(0, 0, 1);
      y.carry(0, false);
      y.strike(y.open(), 0);
    });
    Check.due("what is not true there is lost too", untrue.carry(0, true), 1);
    LedgerKiln back = Check.after(y -> { Play.pages(y, 1); y.copy(); y.carry(0, false); y.carry(0, true); });
    Check.due("nothing struck, all stands", back.stands(0, 0), true);
  }
}
