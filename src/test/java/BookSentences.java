import java.util.function.Consumer;

/** The sentences of the promises 1 to 8, each with its boundary cases. */
final class BookSentences {
  private static final String REFUSED = "IllegalStateException";

  private BookSentences() {}

  static void all(Sentences s) {
    s.promise(1, "No pages, copies and cases", BookSentences::nothingAtFirst);
    s.promise(1, "the day 0; an empty draft", BookSentences::emptyAtFirst);
    s.promise(2, "Adds a leg to the draft", BookSentences::legAdds);
    s.promise(2, "-10000 to 10000, not 0", BookSentences::legTakes);
    s.promise(2, "Returns how many legs it has then", BookSentences::legCounts);
    s.promise(2, "if there is no such account", () ->
        Edges.noSuch("leg", 8, x -> x.leg(1, 1), (x, account) -> x.leg(account, 1)));
    s.promise(2, "if amount is out of range", BookSentences::legRefusesAmount);
    s.promise(2, "if it has 4", BookSentences::legRefusesFifth);
    s.promise(3, "Empties the draft", BookSentences::wipeEmpties);
    s.promise(3, "Returns how many legs it had", BookSentences::wipeCounts);
    s.promise(4, "Writes a page from the draft", BookSentences::writes);
    s.promise(4, "0 to 9999", BookSentences::writeTakes);
    s.promise(4, "Returns its number", BookSentences::writeNumbers);
    s.promise(4, "if text is out of range", BookSentences::writeRefusesText);
    s.promise(4, "if the draft has fewer than 2 legs", BookSentences::writeRefusesFewLegs);
    s.promise(4, "its amounts are not 0 together", BookSentences::writeRefusesUnbalanced);
    s.promise(4, "or there are 80 pages", BookSentences::writeRefusesInFullBook);
    s.promise(5, "Reverses a page", BookSentences::reverses);
    s.promise(5, "Returns the number of its reversal", BookSentences::reverseNumbers);
    s.promise(5, "if there is no such page", BookSentences::reverseNeedsPage);
    s.promise(5, "if it does not stand in the book", BookSentences::reverseNeedsStanding);
    s.promise(5, "is not true there", BookSentences::reverseNeedsTrue);
    s.promise(5, "was reversed or is a reversal", BookSentences::reverseOnce);
    s.promise(5, "or there are 80 pages", BookSentences::reverseRefusesInFullBook);
    s.promise(6, "Lets days go by", BookSentences::passes);
    s.promise(6, "1 to 100", BookSentences::passTakes);
    s.promise(6, "Returns the day then", BookSentences::passTellsDay);
    s.promise(6, "if days is out of range", BookSentences::passRefusesDays);
    s.promise(6, "if it would be above 400", BookSentences::passRefusesAbove);
    s.promise(7, "Pages of the book burn, as far as they stand", BookSentences::burns);
    s.promise(7, "`first`: the first one", BookSentences::burnFirst);
    s.promise(7, "the last one, first or later", BookSentences::burnLast);
    s.promise(7, "Returns how many burn", BookSentences::burnCounts);
    s.promise(7, "if there is no such page, of either", BookSentences::burnNeedsPages);
    s.promise(7, "if last is ahead of first", BookSentences::burnNeedsOrder);
    s.promise(8, "Alters a page of the book", BookSentences::alters);
    s.promise(8, "0 for its first leg", BookSentences::alterLegs);
    s.promise(8, "-10000 to 10000: what stands there then", BookSentences::alterTakes);
    s.promise(8, "Returns what stood there", BookSentences::alterTells);
    s.promise(8, "if there is no such page", BookSentences::alterNeedsPage);
    s.promise(8, "if leg is below 0 or above 3", BookSentences::alterRefusesLeg);
    s.promise(8, "or amount is out of range", BookSentences::alterRefusesAmount);
    s.promise(8, "if it does not stand", BookSentences::alterNeedsStanding);
    s.promise(8, "or does not have so many legs", BookSentences::alterNeedsSuchLeg);
  }

  private static void two(LedgerKiln x) {
    Play.pages(x, 2);
  }

  private static void nothingAtFirst() {
    LedgerKiln x = new LedgerKiln();
    Check.due("pages", x.pages(), 0);
    Check.due("copies", x.copies(), 0);
    Check.due("gaps", x.gaps(), 0);
    Check.due("lost", x.lost(), 0);
    for (int account = 0; account < 8; account++) {
      Check.due("balance", x.balance(account, 0), 0);
      Check.due("balanceByPages", x.balanceByPages(account, 0), 0);
      Check.due("balanceByCopies", x.balanceByCopies(account, 0), 0);
    }
    Check.refusesIndex("page 0", Play.nothing(), y -> y.state(0));
    Check.refusesIndex("copy 0", Play.nothing(), y -> y.size(0));
    Check.refusesIndex("case 0", Play.nothing(), y -> y.isOpen(0));
    Check.due("the first page", Play.page(new LedgerKiln(), 0, 1, 1, 0), 0);
    Check.due("the first copy", new LedgerKiln().copy(), 0);
    Check.due("the first case", new LedgerKiln().open(), 0);
    LedgerKiln other = Check.after(y -> { two(y); y.copy(); y.open(); });
    Check.due("beside an object that has some", new LedgerKiln().pages(), 0);
    Check.due("the other one keeps them", other.pages(), 2);
  }

  private static void emptyAtFirst() {
    LedgerKiln x = new LedgerKiln();
    Check.due("day", x.day(), 0);
    Check.due("draft", x.wipe(), 0);
    Check.due("the first leg", new LedgerKiln().leg(0, 1), 1);
    Check.refusesState("nothing to write", Play.nothing(), y -> y.write(0));
    Check.refusesArgument("no day 1", Play.nothing(), y -> y.balance(0, 1));
  }

  private static void legAdds() {
    LedgerKiln x = Check.after(y -> Play.legs(y, 3, 7, 2, -4, 3, -3));
    x.write(6);
    Check.due("behind those that it has", x.mark(0), Play.markOf(0, 6, 3, 7, 2, -4, 3, -3));
    Check.due("it changes no balance", Check.answerAfter(y -> { two(y); y.leg(0, 9); }, y -> y.balance(0, 0)), 3);
    Check.due("it is no page", Check.answerAfter(y -> y.leg(0, 9), y -> y.pages()), 0);
  }

  private static void legTakes() {
    for (int amount : new int[] {-10000, -9999, -1, 1, 9999, 10000}) {
      Check.due("amount " + amount, new LedgerKiln().leg(0, amount), 1);
    }
    for (int account = 0; account < 8; account++) {
      Check.due("account " + account, new LedgerKiln().leg(account, 1), 1);
    }
  }

  private static void legCounts() {
    LedgerKiln x = new LedgerKiln();
    for (int leg = 1; leg <= 4; leg++) {
      Check.due("leg", x.leg(0, 1), leg);
    }
    x.wipe();
    Check.due("behind wipe", x.leg(0, 1), 1);
    x.leg(0, -1);
    x.write(0);
    Check.due("behind write", x.leg(0, 1), 1);
    Check.answer(x, y -> y.leg(0, 0));
    Check.due("behind a refused one", x.leg(0, 1), 2);
    Check.answer(x, y -> y.write(0));
    Check.due("behind a refused write", x.leg(0, 1), 3);
  }

  private static void legRefusesAmount() {
    Edges.outOf("amount", -10000, 10000, x -> x.leg(1, 1), (x, amount) -> x.leg(0, amount));
    Check.refusesArgument("amount 0", x -> x.leg(1, 1), x -> x.leg(0, 0));
    Check.refusesArgument("amount 0, nothing in the draft", Play.nothing(), x -> x.leg(7, 0));
  }

  private static void legRefusesFifth() {
    Consumer<LedgerKiln> four = x -> Play.legs(x, 0, 1, 1, -1, 2, 1, 3, -1);
    Check.refusesState("a fifth", four, x -> x.leg(0, 1));
    Check.due("four", Check.answerAfter(x -> Play.legs(x, 0, 1, 1, -1, 2, 1), x -> x.leg(3, -1)), 4);
    LedgerKiln x = Check.after(four);
    Check.answer(x, y -> y.leg(7, 7));
    x.write(0);
    Check.due("the four are as they were", x.mark(0), Play.markOf(0, 0, 0, 1, 1, -1, 2, 1, 3, -1));
    Check.due("behind write there is room", x.leg(0, 1), 1);
  }

  private static void wipeEmpties() {
    LedgerKiln x = Check.after(y -> { two(y); Play.legs(y, 0, 1, 1, -1, 2, 5, 3, -5); });
    x.wipe();
    Check.due("nothing to write", Check.answer(x, y -> y.write(0)), REFUSED);
    Play.legs(x, 4, 2, 5, -2);
    x.write(1);
    Check.due("nothing of the old one", x.mark(2), Play.markOf(0, 1, 4, 2, 5, -2));
    Check.due("it touches no page", x.isTrue(0) && x.isTrue(1), true);
  }

  private static void wipeCounts() {
    for (int legs = 0; legs <= 4; legs++) {
      int count = legs;
      LedgerKiln x = Check.after(y -> Play.times(count, () -> y.leg(0, 1)));
      Check.due("legs", x.wipe(), legs);
      Check.due("none any more", x.wipe(), 0);
    }
    Check.due("behind write", Check.answerAfter(BookSentences::two, y -> y.wipe()), 0);
    Check.due("behind a refused write", Check.answerAfter(y -> {
      y.leg(0, 1);
      Check.answer(y, z -> z.write(0));
    }, y -> y.wipe()), 1);
  }

  private static void writes() {
    LedgerKiln x = Check.after(y -> { y.pass(3); Play.legs(y, 0, 1, 1, 2, 2, -3); y.write(5); });
    Check.due("pages", x.pages(), 1);
    Check.due("stands", x.state(0), 0);
    Check.due("true", x.isTrue(0), true);
    Check.due("text", x.text(0), 5);
    Check.due("mark", x.mark(0), Play.markOf(3, 5, 0, 1, 1, 2, 2, -3));
    Check.due("not reversed", x.reversal(0), -1);
    Check.due("in no copy", x.copiesOf(0), 0);
    Check.due("held by none", x.holders(0), 0);
    Check.due("nothing proven", x.proven(0, 0), 0);
    Check.due("balance", x.balance(2, 3), -3);
    Check.due("the draft is empty", x.wipe(), 0);
  }

  private static void writeTakes() {
    for (int text : new int[] {0, 1, 9998, 9999}) {
      LedgerKiln x = new LedgerKiln();
      Play.page(x, 0, 1, 1, text);
      Check.due("text", x.text(0), text);
    }
  }

  private static void writeNumbers() {
    LedgerKiln x = new LedgerKiln();
    Check.due("the first", Play.page(x, 0, 1, 1, 0), 0);
    Check.due("the second", Play.page(x, 0, 1, 1, 0), 1);
    x.reverse(0);
    x.burn(0, 2);
    Check.due("behind a reversal and burnt ones", Play.page(x, 0, 1, 1, 0), 3);
    Check.due("the last", Check.answerAfter(Play::oneShort, y -> Play.page(y, 0, 1, 1, 0)), 79);
  }

  private static void writeRefusesText() {
    Edges.outOf("text", 0, 9999, x -> { two(x); Play.legs(x, 0, 1, 1, -1); }, (x, text) -> x.write(text));
    LedgerKiln x = Check.after(y -> Play.legs(y, 0, 1, 1, -1));
    Check.answer(x, y -> y.write(10000));
    Check.due("the draft stays", x.write(9999), 0);
  }

  private static void writeRefusesFewLegs() {
    Check.refusesState("none", BookSentences::two, x -> x.write(0));
    Check.refusesState("one", x -> { two(x); x.leg(0, 1); }, x -> x.write(0));
    Check.due("two", Check.answerAfter(x -> { two(x); Play.legs(x, 0, 1, 1, -1); }, x -> x.write(0)), 2);
  }

  private static void writeRefusesUnbalanced() {
    Check.refusesState("1 above", x -> Play.legs(x, 0, 2, 1, -1), x -> x.write(0));
    Check.refusesState("1 below", x -> Play.legs(x, 0, 1, 1, -2), x -> x.write(0));
    Check.refusesState("three legs", x -> Play.legs(x, 0, 1, 1, -1, 2, 1), x -> x.write(0));
    Check.refusesState("four legs", x -> Play.legs(x, 0, 1, 1, -1, 2, 10000, 3, -9999), x -> x.write(0));
    Check.refusesState("all above", x -> Play.times(4, () -> x.leg(0, 10000)), x -> x.write(0));
    Check.refusesState("all below", x -> Play.times(4, () -> x.leg(0, -10000)), x -> x.write(0));
    LedgerKiln x = Check.after(y -> Play.legs(y, 0, 2, 1, -1));
    Check.answer(x, y -> y.write(0));
    Check.due("the draft stays", x.leg(2, -1), 3);
    Check.due("it is 0 together now", x.write(0), 0);
  }

  private static void writeRefusesInFullBook() {
    Consumer<LedgerKiln> draft = x -> Play.legs(x, 4, 6, 5, -6);
    Check.due("79 pages", Check.answerAfter(x -> { Play.oneShort(x); draft.accept(x); }, x -> x.write(0)), 79);
    Check.refusesState("80 pages", x -> { Play.fullBook(x); draft.accept(x); }, x -> x.write(0));
    Check.refusesState("80 pages, all burnt",
        x -> { Play.fullBook(x); x.burn(0, 79); draft.accept(x); }, x -> x.write(0));
    Check.refusesState("80 pages, one struck",
        x -> { Play.fullBook(x); x.strike(x.open(), 79); draft.accept(x); }, x -> x.write(0));
  }

  private static void reverses() {
    LedgerKiln x = Check.after(y -> { Play.legs(y, 6, 5, 2, -9, 6, 4); y.write(9999); y.pass(100); y.leg(1, 1); });
    x.reverse(0);
    Check.due("written now, other signs", x.mark(1), Play.markOf(100, 9999, 6, -5, 2, 9, 6, -4));
    Check.due("it stands", x.state(1), 0);
    Check.due("balance ahead", x.balance(6, 99), 9);
    Check.due("balance now", x.balance(6, 100), 0);
    Check.due("the page stays", x.isTrue(0), true);
    Check.due("the draft stays", x.wipe(), 1);
  }

  private static void reverseNumbers() {
    LedgerKiln x = Check.after(BookSentences::two);
    Check.due("of the second", x.reverse(1), 2);
    Check.due("of the first", x.reverse(0), 3);
    Check.due("told of the second", x.reversal(1), 2);
    Check.due("told of the first", x.reversal(0), 3);
    Check.due("told of a reversal", x.reversal(2), -1);
    Check.due("the last", Check.answerAfter(Play::oneShort, y -> y.reverse(78)), 79);
  }

  private static void reverseNeedsPage() {
    Edges.noSuch("reverse, no pages", 0, Play.nothing(), (x, page) -> x.reverse(page));
    Edges.noSuch("reverse", 2, BookSentences::two, (x, page) -> x.reverse(page));
    Edges.noSuch("reverse, 80 pages", 80, Play::fullBook, (x, page) -> x.reverse(page));
  }

  private static void reverseNeedsStanding() {
    Check.refusesState("burnt", x -> { two(x); x.burn(1, 1); }, x -> x.reverse(1));
    Check.refusesState("struck", x -> { two(x); x.strike(x.open(), 1); }, x -> x.reverse(1));
    Check.due("the one beside a burnt one", Check.answerAfter(x -> { two(x); x.burn(1, 1); }, x -> x.reverse(0)), 2);
  }

  private static void reverseNeedsTrue() {
    Check.refusesState("1 more", x -> { two(x); x.alter(1, 0, 3); }, x -> x.reverse(1));
    Check.refusesState("1 less on the other leg", x -> { two(x); x.alter(1, 1, -3); }, x -> x.reverse(1));
    Check.due("altered back",
        Check.answerAfter(x -> { two(x); x.alter(1, 0, 3); x.alter(1, 0, 2); }, x -> x.reverse(1)), 2);
    Check.due("altered to the same", Check.answerAfter(x -> { two(x); x.alter(1, 0, 2); }, x -> x.reverse(1)), 2);
  }

  private static void reverseOnce() {
    Consumer<LedgerKiln> reversed = x -> { two(x); x.reverse(0); };
    Check.refusesState("was reversed", reversed, x -> x.reverse(0));
    Check.refusesState("is a reversal", reversed, x -> x.reverse(2));
    Check.due("neither", Check.answerAfter(reversed, x -> x.reverse(1)), 3);
  }

  private static void reverseRefusesInFullBook() {
    Check.due("79 pages", Check.answerAfter(Play::oneShort, x -> x.reverse(78)), 79);
    Check.refusesState("80 pages", x -> { Play.oneShort(x); Play.page(x, 0, 1, 1, 1); }, x -> x.reverse(78));
    Check.refusesState("80 pages, the last one",
        x -> { Play.oneShort(x); Play.page(x, 0, 1, 1, 1); }, x -> x.reverse(79));
  }

  private static void passes() {
    LedgerKiln x = Check.after(y -> { two(y); y.copy(); y.hold(y.open(), 0, 0, 0); y.leg(0, 1); });
    x.pass(10);
    Check.due("pages stay", x.pages(), 2);
    Check.due("their day stays", x.balance(0, 0), 3);
    Check.due("holds stay", x.holders(0), 1);
    Check.due("the draft stays", x.wipe(), 1);
    Play.page(x, 0, 1, 5, 0);
    Check.due("a page then, the day ahead", x.balance(0, 9), 3);
    Check.due("a page then", x.balance(0, 10), 8);
  }

  private static void passTakes() {
    Check.due("1", new LedgerKiln().pass(1), 1);
    Check.due("100", new LedgerKiln().pass(100), 100);
    Check.due("2", new LedgerKiln().pass(2), 2);
    Check.due("99", new LedgerKiln().pass(99), 99);
  }

  private static void passTellsDay() {
    LedgerKiln x = new LedgerKiln();
    int[] days = {1, 100, 50, 100, 100, 48, 1};
    int day = 0;
    for (int passing : days) {
      day += passing;
      Check.due("pass " + passing, x.pass(passing), day);
      Check.due("day", x.day(), day);
    }
  }

  private static void passRefusesDays() {
    Edges.outOf("days", 1, 100, x -> x.pass(9), (x, days) -> x.pass(days));
    Edges.outOf("days, the last day", 1, 100, x -> Play.until(x, 400), (x, days) -> x.pass(days));
    Check.refusesArgument("-1 days", x -> x.pass(9), x -> x.pass(-1));
    Check.refusesArgument("-100 days", x -> Play.until(x, 400), x -> x.pass(-100));
  }

  private static void passRefusesAbove() {
    Check.due("to 400 at once", Check.answerAfter(x -> Play.until(x, 300), x -> x.pass(100)), 400);
    Check.due("to 400", Check.answerAfter(x -> Play.until(x, 399), x -> x.pass(1)), 400);
    Check.refusesState("401 at once", x -> Play.until(x, 301), x -> x.pass(100));
    Check.refusesState("401", x -> Play.until(x, 400), x -> x.pass(1));
    Check.refusesState("401 from 399", x -> Play.until(x, 399), x -> x.pass(2));
    Check.refusesState("500", x -> Play.until(x, 400), x -> x.pass(100));
    Check.due("a refused one lets no day go by", Check.answerAfter(x -> {
      Play.until(x, 399);
      Check.answer(x, y -> y.pass(2));
    }, x -> x.pass(1)), 400);
  }

  private static void burns() {
    LedgerKiln x = Check.after(y -> {
      Play.pages(y, 5);
      y.strike(y.open(), 1);
      y.alter(2, 0, 9);
      y.copy();
      y.burn(3, 3);
    });
    x.burn(0, 3);
    int[] states = {1, 2, 1, 1, 0};
    for (int page = 0; page < 5; page++) {
      Check.due("state " + page, x.state(page), states[page]);
    }
    Check.due("copies do not burn", x.copiesOf(0), 1);
    Check.due("text", x.text(0), -1);
    Check.due("true", x.isTrue(0), false);
    Check.due("pages", x.pages(), 5);
  }

  private static void burnFirst() {
    LedgerKiln x = Check.after(y -> Play.pages(y, 4));
    Check.due("from the second on", x.burn(1, 3), 3);
    Check.due("not the one ahead of it", x.state(0), 0);
    Check.due("the first of them", x.state(1), 1);
    Check.due("from the first on", x.burn(0, 3), 1);
    Check.due("the first", x.state(0), 1);
  }

  private static void burnLast() {
    LedgerKiln x = Check.after(y -> Play.pages(y, 4));
    Check.due("the same as first", x.burn(2, 2), 1);
    Check.due("not the next", x.state(3), 0);
    Check.due("not the one ahead", x.state(1), 0);
    Check.due("one later", x.burn(0, 1), 2);
    Check.due("the last of all", x.burn(3, 3), 1);
    Check.due("all 80", Check.answerAfter(Play::fullBook, y -> y.burn(0, 79)), 80);
  }

  private static void burnCounts() {
    LedgerKiln x = Check.after(y -> { Play.pages(y, 4); y.strike(y.open(), 1); });
    Check.due("one", x.burn(2, 2), 1);
    Check.due("it burns no more", x.burn(2, 2), 0);
    Check.due("a struck one does not burn", x.burn(1, 1), 0);
    Check.due("those that stand", x.burn(0, 3), 2);
    Check.due("none any more", x.burn(0, 3), 0);
    LedgerKiln restored = Check.after(y -> { two(y); y.copy(); y.burn(0, 1); y.restore(0); });
    Check.due("restored ones burn again", restored.burn(0, 1), 2);
  }

  private static void burnNeedsPages() {
    Edges.noSuch("no pages, first", 0, Play.nothing(), (x, page) -> x.burn(page, 0));
    Edges.noSuch("first", 2, BookSentences::two, (x, page) -> x.burn(page, 1));
    Edges.noSuch("last", 2, BookSentences::two, (x, page) -> x.burn(0, page));
    Edges.noSuch("both", 2, BookSentences::two, (x, page) -> x.burn(page, page));
    Edges.noSuch("last of 80", 80, Play::fullBook, (x, page) -> x.burn(79, page));
  }

  private static void burnNeedsOrder() {
    Check.refusesArgument("1 ahead", BookSentences::two, x -> x.burn(1, 0));
    Check.refusesArgument("79 ahead", Play::fullBook, x -> x.burn(79, 0));
    Check.refusesArgument("both are burnt", x -> { two(x); x.burn(0, 1); }, x -> x.burn(1, 0));
  }

  private static void alters() {
    LedgerKiln x = Check.after(y -> { two(y); y.copy(); });
    x.alter(1, 1, 500);
    Check.due("not true", x.isTrue(1), false);
    Check.due("it stands", x.state(1), 0);
    Check.due("its text", x.text(1), 1);
    Check.due("its mark", x.mark(1), Play.markOf(0, 1, 0, 2, 1, -2));
    Check.due("the copy is not altered", x.audit(0), 1);
    Check.due("the page beside it", x.isTrue(0), true);
    Check.due("balance", x.balance(1, 0), -3);
    Check.due("balanceByPages", x.balanceByPages(1, 0), 499);
    Check.due("the last of 80", Check.answerAfter(Play::fullBook, y -> y.alter(79, 1, 5)), 40);
  }

  private static void alterLegs() {
    LedgerKiln x = Check.after(y -> { Play.legs(y, 7, 1, 6, 2, 5, 3, 4, -6); y.write(0); });
    int[] amounts = {1, 2, 3, -6};
    for (int leg = 0; leg < 4; leg++) {
      Check.due("leg " + leg, x.alter(0, leg, 100 + leg), amounts[leg]);
      Check.due("its account", x.balanceByPages(7 - leg, 0), 100 + leg);
    }
    Check.due("the last leg of two", Check.answerAfter(BookSentences::two, y -> y.alter(0, 1, 5)), -1);
    Check.due("the last leg of three", Check.answerAfter(y -> { Play.legs(y, 0, 1, 1, 2, 2, -3); y.write(0); },
        y -> y.alter(0, 2, 5)), -3);
  }

  private static void alterTakes() {
    LedgerKiln x = Check.after(BookSentences::two);
    int old = 1;
    for (int amount : new int[] {-10000, 10000, -9999, 9999, -1, 0, 1}) {
      Check.due("alter to " + amount, x.alter(0, 0, amount), old);
      Check.due("it stands there then", x.balanceByPages(0, 0), amount + 2);
      old = amount;
    }
    Check.due("as it was", x.isTrue(0), true);
  }

  private static void alterTells() {
    LedgerKiln x = Check.after(y -> { Play.page(y, 0, 1, 10000, 0); y.copy(); });
    Check.due("as written", x.alter(0, 1, 7), -10000);
    Check.due("as altered", x.alter(0, 1, 0), 7);
    Check.due("as altered to 0", x.alter(0, 1, 0), 0);
    x.restore(0);
    Check.due("as restored", x.alter(0, 1, 1), -10000);
  }

  private static void alterNeedsPage() {
    Edges.noSuch("no pages", 0, Play.nothing(), (x, page) -> x.alter(page, 0, 0));
    Edges.noSuch("two pages", 2, BookSentences::two, (x, page) -> x.alter(page, 0, 0));
    Edges.noSuch("80 pages", 80, Play::fullBook, (x, page) -> x.alter(page, 0, 0));
  }

  private static void alterRefusesLeg() {
    Edges.outOf("leg", 0, 3, BookSentences::two, (x, leg) -> x.alter(0, leg, 5));
    Edges.outOf("leg of four", 0, 3, x -> { Play.legs(x, 7, 1, 6, 2, 5, 3, 4, -6); x.write(0); },
        (x, leg) -> x.alter(0, leg, 5));
    Check.refusesArgument("leg 4, there is a next page", BookSentences::two, x -> x.alter(0, 4, 2));
  }

  private static void alterRefusesAmount() {
    Edges.outOf("amount", -10000, 10000, BookSentences::two, (x, amount) -> x.alter(1, 1, amount));
    Edges.outOf("amount, burnt", -10000, 10000, x -> { two(x); x.burn(1, 1); }, (x, amount) -> x.alter(1, 1, amount));
  }

  private static void alterNeedsStanding() {
    for (int leg = 0; leg < 4; leg++) {
      int altered = leg;
      Check.refusesState("burnt, leg " + leg, x -> { two(x); x.burn(0, 0); }, x -> x.alter(0, altered, 5));
      Check.refusesState("struck, leg " + leg, x -> { two(x); x.strike(x.open(), 0); }, x -> x.alter(0, altered, 5));
    }
  }

  private static void alterNeedsSuchLeg() {
    Check.refusesState("leg 2 of two", BookSentences::two, x -> x.alter(0, 2, 0));
    Check.refusesState("leg 3 of two", BookSentences::two, x -> x.alter(0, 3, 0));
    Check.refusesState("leg 3 of three",
        x -> { Play.legs(x, 0, 1, 1, 2, 2, -3); x.write(0); }, x -> x.alter(0, 3, 0));
    Check.due("leg 3 of four", Check.answerAfter(x -> { Play.legs(x, 0, 1, 1, 2, 2, 1, 3, -4); x.write(0); },
        x -> x.alter(0, 3, 0)), -4);
  }
}
