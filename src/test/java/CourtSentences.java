import java.util.function.Consumer;

/** The sentences of the promises 15 to 18 and 40 to 42, each with its boundary cases. */
final class CourtSentences {
  private static final String REFUSED = "IllegalStateException";

  private CourtSentences() {}

  static void all(Sentences s) {
    s.promise(15, "Opens a case", CourtSentences::opens);
    s.promise(15, "Returns its number", CourtSentences::openNumbers);
    s.promise(15, "if 8 were opened", CourtSentences::openRefusesMore);
    s.promise(16, "Closes a case", CourtSentences::closes);
    s.promise(16, "Returns how many pages are not held any more by any case", CourtSentences::closeCounts);
    s.promise(16, "if there is no such case", CourtSentences::closeNeedsCase);
    s.promise(16, "if it is closed", CourtSentences::closeNeedsOpen);
    s.promise(17, "A case holds an account", CourtSentences::holds);
    s.promise(17, "0 to 400: the first day", CourtSentences::holdFrom);
    s.promise(17, "from to 400: the last day", CourtSentences::holdTo);
    s.promise(17, "Returns how many pages the case holds then", CourtSentences::holdCounts);
    s.promise(17, "if there is no such case or account", CourtSentences::holdNeedsBoth);
    s.promise(17, "if from or to is out of range", CourtSentences::holdRefusesDays);
    s.promise(17, "if it is closed", CourtSentences::holdNeedsOpen);
    s.promise(17, "or 30 holds were told", CourtSentences::holdRefusesMore);
    s.promise(18, "A case strikes a page", CourtSentences::strikes);
    s.promise(18, "Returns in how many copies something stands there still", CourtSentences::strikeCounts);
    s.promise(18, "if there is no such case or page", CourtSentences::strikeNeedsBoth);
    s.promise(18, "if the case is closed", CourtSentences::strikeNeedsOpen);
    s.promise(18, "the page does not stand in the book", CourtSentences::strikeNeedsStanding);
    s.promise(18, "or is not true there", CourtSentences::strikeNeedsTrue);
    s.promise(18, "or another case holds it", CourtSentences::strikeNeedsNoOther);
    s.promise(40, "Tells whether a case is open", CourtSentences::isOpen);
    s.promise(40, "if there is no such case", CourtSentences::isOpenNeedsCase);
    s.promise(41, "Returns the cases that hold a page, bit c for the case c", CourtSentences::holders);
    s.promise(41, "if there is no such page", CourtSentences::holdersNeedsPage);
    s.promise(42, "Tells whether a case could strike a page now", CourtSentences::canStrike);
    s.promise(42, "if there is no such case or page", CourtSentences::canStrikeNeedsBoth);
  }

  /** Page 0 for 0 and 1 on the day 0, page 1 for 2 and 3 on the day 5; cases 0, 1 and, closed, 2. */
  private static void court(LedgerKiln x) {
    Play.page(x, 0, 1, 10, 0);
    x.pass(5);
    Play.page(x, 2, 3, 20, 0);
    Play.times(3, () -> x.open());
    x.close(2);
  }

  private static void eight(LedgerKiln x) {
    Play.pages(x, 1);
    Play.times(8, () -> x.open());
  }

  private static void opens() {
    LedgerKiln x = Check.after(y -> { Play.pages(y, 1); y.open(); });
    Check.due("open", x.isOpen(0), true);
    Check.due("one alone", Check.answer(x, y -> y.isOpen(1)), "IndexOutOfBoundsException");
    Check.due("it holds nothing", x.holders(0), 0);
    Check.due("it can strike", x.canStrike(0, 0), true);
  }

  private static void openNumbers() {
    LedgerKiln x = new LedgerKiln();
    for (int lawsuit = 0; lawsuit < 8; lawsuit++) {
      Check.due("number", x.open(), lawsuit);
    }
    Check.due("behind a closed one", Check.answerAfter(CourtSentences::court, y -> y.open()), 3);
  }

  private static void openRefusesMore() {
    Check.due("the eighth", Check.answerAfter(y -> Play.times(7, () -> y.open()), y -> y.open()), 7);
    Check.refusesState("a ninth", CourtSentences::eight, x -> x.open());
    Check.refusesState("a ninth, the last closed", x -> { eight(x); x.close(7); }, x -> x.open());
  }

  private static void closes() {
    LedgerKiln x = Check.after(y -> { court(y); y.hold(0, 0, 0, 0); y.hold(1, 0, 0, 0); y.close(0); });
    Check.due("closed", x.isOpen(0), false);
    Check.due("the other one is open", x.isOpen(1), true);
    Check.due("it holds no more", x.holders(0), 2);
    Check.due("it strikes no more", x.canStrike(0, 1), false);
    LedgerKiln later = Check.after(y -> { court(y); y.hold(0, 4, 5, 5); y.close(0); Play.page(y, 4, 5, 1, 0); });
    Check.due("nor what is written later", later.holders(2), 0);
    Check.due("the eighth", Check.answerAfter(CourtSentences::eight, y -> y.close(7)), 0);
  }

  private static void closeCounts() {
    Check.due("no holds", Check.answerAfter(CourtSentences::court, x -> x.close(0)), 0);
    Check.due("one page", Check.answerAfter(x -> { court(x); x.hold(0, 0, 0, 400); }, x -> x.close(0)), 1);
    Check.due("held by the other one alone",
        Check.answerAfter(x -> { court(x); x.hold(1, 0, 0, 400); }, x -> x.close(0)), 0);
    Check.due("held by both", Check.answerAfter(x -> {
      court(x);
      x.hold(0, 0, 0, 400);
      x.hold(1, 1, 0, 400);
    }, x -> x.close(0)), 0);
    Check.due("held twice by it", Check.answerAfter(x -> {
      court(x);
      x.hold(0, 0, 0, 400);
      x.hold(0, 1, 0, 400);
    }, x -> x.close(0)), 1);
    Check.due("one of two is held by the other one too", Check.answerAfter(x -> {
      court(x);
      x.hold(0, 0, 0, 400);
      x.hold(0, 3, 0, 400);
      x.hold(1, 2, 0, 400);
    }, x -> x.close(0)), 1);
    Check.due("burnt and struck ones too", Check.answerAfter(x -> {
      court(x);
      x.hold(0, 0, 0, 400);
      x.hold(0, 3, 0, 400);
      x.strike(0, 0);
      x.burn(1, 1);
    }, x -> x.close(0)), 2);
    Check.due("80 pages",
        Check.answerAfter(x -> { Play.fullBook(x); x.hold(x.open(), 0, 0, 0); }, x -> x.close(0)), 80);
    LedgerKiln both = Check.after(x -> { court(x); x.hold(0, 0, 0, 400); x.hold(1, 1, 0, 400); });
    both.close(0);
    Check.due("the last one that holds it", both.close(1), 1);
  }

  private static void closeNeedsCase() {
    Edges.noSuch("no cases", 0, Play.nothing(), (x, lawsuit) -> x.close(lawsuit));
    Edges.noSuch("three cases", 3, CourtSentences::court, (x, lawsuit) -> x.close(lawsuit));
    Edges.noSuch("eight cases", 8, CourtSentences::eight, (x, lawsuit) -> x.close(lawsuit));
  }

  private static void closeNeedsOpen() {
    Check.refusesState("closed", CourtSentences::court, x -> x.close(2));
    Check.refusesState("closed, with holds", x -> { court(x); x.hold(0, 0, 0, 400); x.close(0); }, x -> x.close(0));
    Check.refusesState("the eighth, closed", x -> { eight(x); x.close(7); }, x -> x.close(7));
  }

  private static void holds() {
    LedgerKiln x = Check.after(y -> { court(y); y.hold(1, 2, 5, 5); });
    Check.due("the page of that day and account", x.holders(1), 2);
    Check.due("not the other one", x.holders(0), 0);
    Check.due("it does not strike", x.state(1), 0);
    x.hold(0, 3, 0, 400);
    Check.due("both", x.holders(1), 3);
  }

  private static void holdFrom() {
    Consumer<LedgerKiln> early = x -> { Play.page(x, 0, 1, 1, 0); x.open(); };
    Check.due("0", Check.answerAfter(early, x -> x.hold(0, 0, 0, 400)), 1);
    Check.due("1", Check.answerAfter(early, x -> x.hold(0, 0, 1, 400)), 0);
    Consumer<LedgerKiln> late = x -> { Play.until(x, 400); Play.page(x, 0, 1, 1, 0); x.open(); };
    Check.due("400", Check.answerAfter(late, x -> x.hold(0, 0, 400, 400)), 1);
    Check.due("400, ahead of that day", Check.answerAfter(early, x -> x.hold(0, 0, 400, 400)), 0);
    Check.due("the day of the page", Check.answerAfter(CourtSentences::court, x -> x.hold(0, 2, 5, 6)), 1);
    Check.due("the day behind the page", Check.answerAfter(CourtSentences::court, x -> x.hold(0, 2, 6, 6)), 0);
    Edges.outOf("from", 0, 400, early, (x, from) -> x.hold(0, 0, from, 400));
  }

  private static void holdTo() {
    Consumer<LedgerKiln> late = x -> { Play.until(x, 400); Play.page(x, 0, 1, 1, 0); x.open(); };
    Check.due("400", Check.answerAfter(late, x -> x.hold(0, 0, 0, 400)), 1);
    Check.due("399", Check.answerAfter(late, x -> x.hold(0, 0, 0, 399)), 0);
    Check.due("from itself, 0", Check.answerAfter(CourtSentences::court, x -> x.hold(0, 1, 0, 0)), 1);
    Check.due("from itself, the day of the page",
        Check.answerAfter(CourtSentences::court, x -> x.hold(0, 2, 5, 5)), 1);
    Check.due("the day ahead of the page", Check.answerAfter(CourtSentences::court, x -> x.hold(0, 2, 0, 4)), 0);
    Edges.outOf("to", 7, 400, CourtSentences::court, (x, to) -> x.hold(0, 0, 7, to));
    Edges.outOf("to, from 400", 400, 400, CourtSentences::court, (x, to) -> x.hold(0, 0, 400, to));
  }

  private static void holdCounts() {
    LedgerKiln x = Check.after(CourtSentences::court);
    Check.due("none", x.hold(0, 7, 0, 400), 0);
    Check.due("one", x.hold(0, 0, 0, 400), 1);
    Check.due("the same page again", x.hold(0, 1, 0, 400), 1);
    Check.due("two", x.hold(0, 3, 5, 5), 2);
    Check.due("of the other case its own alone", x.hold(1, 7, 0, 400), 0);
    Check.due("held by another one too", x.hold(1, 0, 0, 0), 1);
    x.burn(0, 0);
    x.strike(0, 1);
    Check.due("burnt and struck ones too", x.hold(0, 7, 0, 0), 2);
    Check.due("80 pages", Check.answerAfter(y -> { Play.fullBook(y); y.open(); }, y -> y.hold(0, 1, 0, 0)), 80);
    Check.due("no pages", Check.answerAfter(y -> y.open(), y -> y.hold(0, 1, 0, 400)), 0);
  }

  private static void holdNeedsBoth() {
    Edges.noSuch("no cases", 0, Play.nothing(), (x, lawsuit) -> x.hold(lawsuit, 0, 0, 0));
    Edges.noSuch("case", 3, CourtSentences::court, (x, lawsuit) -> x.hold(lawsuit, 0, 0, 0));
    Edges.noSuch("eight cases", 8, CourtSentences::eight, (x, lawsuit) -> x.hold(lawsuit, 0, 0, 0));
    Edges.noSuch("account", 8, CourtSentences::court, (x, account) -> x.hold(0, account, 0, 400));
    Edges.noSuch("account, closed", 8, CourtSentences::court, (x, account) -> x.hold(2, account, 0, 400));
    Edges.noSuch("case, days too", 3, CourtSentences::court, (x, lawsuit) -> x.hold(lawsuit, 0, 1, 0));
  }

  private static void holdRefusesDays() {
    Check.refusesArgument("from -1", CourtSentences::court, x -> x.hold(0, 0, -1, 0));
    Check.refusesArgument("both -1", CourtSentences::court, x -> x.hold(0, 0, -1, -1));
    Check.refusesArgument("to 401", CourtSentences::court, x -> x.hold(0, 0, 0, 401));
    Check.refusesArgument("both 401", CourtSentences::court, x -> x.hold(0, 0, 401, 401));
    Check.refusesArgument("to 1 ahead of from", CourtSentences::court, x -> x.hold(0, 0, 5, 4));
    Check.refusesArgument("400 and 0", CourtSentences::court, x -> x.hold(0, 0, 400, 0));
    Check.refusesArgument("the least and the greatest",
        CourtSentences::court, x -> x.hold(0, 0, Integer.MIN_VALUE, Integer.MAX_VALUE));
    Check.refusesArgument("days, closed", CourtSentences::court, x -> x.hold(2, 0, 5, 4));
  }

  private static void holdNeedsOpen() {
    Check.refusesState("closed", CourtSentences::court, x -> x.hold(2, 0, 0, 400));
    Check.refusesState("closed, it had holds",
        x -> { court(x); x.hold(0, 0, 0, 400); x.close(0); }, x -> x.hold(0, 2, 0, 400));
    Check.due("the one beside it", Check.answerAfter(CourtSentences::court, x -> x.hold(1, 0, 0, 400)), 1);
  }

  private static void holdRefusesMore() {
    Consumer<LedgerKiln> almost = x -> { court(x); Play.times(29, () -> x.hold(0, 7, 0, 0)); };
    Check.due("the 30th", Check.answerAfter(almost, x -> x.hold(1, 0, 0, 400)), 1);
    Consumer<LedgerKiln> full = x -> { almost.accept(x); x.hold(1, 7, 0, 0); };
    Check.refusesState("a 31st", full, x -> x.hold(0, 0, 0, 400));
    Check.refusesState("a 31st of another case", full, x -> x.hold(1, 0, 0, 400));
    Check.refusesState("a 31st, the first case closed",
        x -> { full.accept(x); x.close(0); }, x -> x.hold(1, 0, 0, 400));
    Check.refusesState("a 31st of a new case", x -> { full.accept(x); x.open(); }, x -> x.hold(3, 0, 0, 400));
  }

  private static void strikes() {
    LedgerKiln x = Check.after(y -> { court(y); y.copy(); y.strike(1, 1); });
    Check.due("struck", x.state(1), 2);
    Check.due("in no copy", x.copiesOf(1), 0);
    Check.due("its sums", x.proven(1, 3), -20);
    Check.due("its text", x.text(1), -1);
    Check.due("the other page", x.isTrue(0), true);
    Check.due("the case stays open", x.isOpen(1), true);
    Check.due("its balance stays", x.balance(2, 5), 20);
    Check.due("the last of 80 by the eighth",
        Check.answerAfter(y -> { Play.fullBook(y); Play.times(8, () -> y.open()); }, y -> y.strike(7, 79)), 0);
  }

  private static void strikeCounts() {
    Check.due("no copies", Check.answerAfter(CourtSentences::court, x -> x.strike(0, 0)), 0);
    Consumer<LedgerKiln> copied = x -> { court(x); Play.times(16, () -> x.copy()); };
    Check.due("all in the vault", Check.answerAfter(copied, x -> x.strike(0, 0)), 0);
    LedgerKiln x = Check.after(copied);
    for (int copy = 0; copy < 16; copy++) {
      x.carry(copy, false);
    }
    Check.due("all 16 outside", x.strike(0, 0), 16);
    x.carry(15, true);
    x.throwAway(14);
    x.rot(13, 1);
    Check.due("one back, one thrown away, one rotten", x.strike(0, 1), 13);
    Check.due("what is not true there counts", Check.answerAfter(y -> {
      court(y);
      y.alter(0, 0, 9);
      y.copy();
      y.alter(0, 0, 10);
      y.carry(0, false);
    }, y -> y.strike(0, 0)), 1);
    Check.due("made ahead of the page", Check.answerAfter(y -> {
      y.copy();
      y.carry(0, false);
      court(y);
    }, y -> y.strike(0, 0)), 0);
  }

  private static void strikeNeedsBoth() {
    Edges.noSuch("no cases", 0, x -> Play.pages(x, 1), (x, lawsuit) -> x.strike(lawsuit, 0));
    Edges.noSuch("no pages", 0, x -> x.open(), (x, page) -> x.strike(0, page));
    Edges.noSuch("case", 3, CourtSentences::court, (x, lawsuit) -> x.strike(lawsuit, 0));
    Edges.noSuch("eight cases", 8, CourtSentences::eight, (x, lawsuit) -> x.strike(lawsuit, 0));
    Edges.noSuch("page", 2, CourtSentences::court, (x, page) -> x.strike(0, page));
    Edges.noSuch("page, closed", 2, CourtSentences::court, (x, page) -> x.strike(2, page));
    Edges.noSuch("page of 80", 80, x -> { Play.fullBook(x); x.open(); }, (x, page) -> x.strike(0, page));
  }

  private static void strikeNeedsOpen() {
    Check.refusesState("closed", CourtSentences::court, x -> x.strike(2, 0));
    Check.refusesState("closed, it held the page",
        x -> { court(x); x.hold(0, 0, 0, 0); x.close(0); }, x -> x.strike(0, 0));
    Check.due("another one is closed", Check.answerAfter(CourtSentences::court, x -> x.strike(1, 0)), 0);
  }

  private static void strikeNeedsStanding() {
    Check.refusesState("burnt", x -> { court(x); x.burn(0, 0); }, x -> x.strike(0, 0));
    Check.refusesState("burnt, it stands in a copy", x -> { court(x); x.copy(); x.burn(0, 0); }, x -> x.strike(0, 0));
    Check.refusesState("struck", x -> { court(x); x.strike(0, 0); }, x -> x.strike(0, 0));
    Check.refusesState("struck, it stands outside",
        x -> { court(x); x.copy(); x.carry(0, false); x.strike(0, 0); }, x -> x.strike(1, 0));
  }

  private static void strikeNeedsTrue() {
    Check.refusesState("1 more", x -> { court(x); x.alter(0, 0, 11); }, x -> x.strike(0, 0));
    Check.refusesState("1 less on the last leg", x -> { court(x); x.alter(0, 1, -11); }, x -> x.strike(0, 0));
    Check.refusesState("the same mark", x -> {
      Play.page(x, 0, 1, 1, 5);
      x.alter(0, 0, 59);
      x.alter(0, 1, 4664);
      x.open();
    }, x -> x.strike(0, 0));
    Check.due("altered to the same",
        Check.answerAfter(x -> { court(x); x.alter(0, 0, 10); }, x -> x.strike(0, 0)), 0);
  }

  private static void strikeNeedsNoOther() {
    Check.refusesState("another one", x -> { court(x); x.hold(1, 0, 0, 0); }, x -> x.strike(0, 0));
    Check.refusesState("another one, and itself",
        x -> { court(x); x.hold(0, 0, 0, 0); x.hold(1, 0, 0, 0); }, x -> x.strike(0, 0));
    Check.refusesState("the eighth", x -> { eight(x); x.hold(7, 0, 0, 0); }, x -> x.strike(0, 0));
    Check.due("itself", Check.answerAfter(x -> { court(x); x.hold(0, 0, 0, 0); }, x -> x.strike(0, 0)), 0);
    Check.due("another one holds another page",
        Check.answerAfter(x -> { court(x); x.hold(1, 2, 0, 400); }, x -> x.strike(0, 0)), 0);
    Check.due("another one, closed", Check.answerAfter(x -> {
      court(x);
      x.hold(1, 0, 0, 0);
      x.close(1);
    }, x -> x.strike(0, 0)), 0);
  }

  private static void isOpen() {
    LedgerKiln x = Check.after(CourtSentences::eight);
    for (int lawsuit = 0; lawsuit < 8; lawsuit++) {
      Check.due("open", x.isOpen(lawsuit), true);
      x.close(lawsuit);
      Check.due("closed", x.isOpen(lawsuit), false);
    }
  }

  private static void isOpenNeedsCase() {
    Edges.noSuch("no cases", 0, Play.nothing(), (x, lawsuit) -> x.isOpen(lawsuit));
    Edges.noSuch("three cases", 3, CourtSentences::court, (x, lawsuit) -> x.isOpen(lawsuit));
    Edges.noSuch("eight cases", 8, CourtSentences::eight, (x, lawsuit) -> x.isOpen(lawsuit));
  }

  private static void holders() {
    LedgerKiln none = Check.after(CourtSentences::eight);
    Check.due("none", none.holders(0), 0);
    int due = 0;
    for (int lawsuit = 7; lawsuit >= 0; lawsuit--) {
      LedgerKiln one = Check.after(CourtSentences::eight);
      one.hold(lawsuit, 1, 0, 0);
      Check.due("the case " + lawsuit, one.holders(0), 1 << lawsuit);
      none.hold(lawsuit, 0, 0, 0);
      due += 1 << lawsuit;
      Check.due("those from " + lawsuit + " on", none.holders(0), due);
    }
    none.hold(3, 1, 0, 0);
    Check.due("one of them twice", none.holders(0), 255);
    none.close(3);
    Check.due("one of them closed", none.holders(0), 247);
    Check.due("the last of 80",
        Check.answerAfter(y -> { Play.fullBook(y); y.hold(y.open(), 0, 0, 0); }, y -> y.holders(79)), 1);
  }

  private static void holdersNeedsPage() {
    Edges.noSuch("no pages", 0, x -> x.open(), (x, page) -> x.holders(page));
    Edges.noSuch("two pages", 2, CourtSentences::court, (x, page) -> x.holders(page));
    Edges.noSuch("80 pages", 80, Play::fullBook, (x, page) -> x.holders(page));
  }

  private static void canStrike() {
    LedgerKiln x = Check.after(CourtSentences::court);
    Check.due("held by none", x.canStrike(0, 0), true);
    Check.due("closed", x.canStrike(2, 0), false);
    x.hold(1, 0, 0, 0);
    Check.due("held by another one", x.canStrike(0, 0), false);
    Check.due("held by itself", x.canStrike(1, 0), true);
    x.hold(0, 1, 0, 0);
    Check.due("held by both", x.canStrike(0, 0) || x.canStrike(1, 0), false);
    x.close(1);
    Check.due("the other one closed", x.canStrike(0, 0), true);
    Check.due("closed, it held it", x.canStrike(1, 0), false);
    x.alter(0, 0, 11);
    Check.due("not true", x.canStrike(0, 0), false);
    x.alter(0, 0, 10);
    Check.due("true again", x.canStrike(0, 0), true);
    Check.due("nothing was struck by that", x.state(0), 0);
    x.burn(1, 1);
    Check.due("burnt", x.canStrike(0, 1), false);
    Check.due("as it could", x.strike(0, 0), 0);
    Check.due("struck", x.canStrike(0, 0), false);
    Check.due("as it could not", Check.answer(x, y -> y.strike(0, 1)), REFUSED);
  }

  private static void canStrikeNeedsBoth() {
    Edges.noSuch("no cases", 0, x -> Play.pages(x, 1), (x, lawsuit) -> x.canStrike(lawsuit, 0));
    Edges.noSuch("no pages", 0, x -> x.open(), (x, page) -> x.canStrike(0, page));
    Edges.noSuch("case", 3, CourtSentences::court, (x, lawsuit) -> x.canStrike(lawsuit, 0));
    Edges.noSuch("eight cases", 8, CourtSentences::eight, (x, lawsuit) -> x.canStrike(lawsuit, 0));
    Edges.noSuch("page", 2, CourtSentences::court, (x, page) -> x.canStrike(0, page));
    Edges.noSuch("page, closed", 2, CourtSentences::court, (x, page) -> x.canStrike(2, page));
  }
}
