import java.util.function.Consumer;

/** The sentences of 'What it is' and of 'Terms', each with its boundary cases. */
final class TermSentences {
  private TermSentences() {}

  static void all(Sentences s) {
    s.test("What it is", "An object is used for at most 512 calls", TermSentences::lastCall);
    s.term("Balances are kept as pages are written", TermSentences::threeBalances);
    s.term("The day of now is 0 at first", TermSentences::firstDay);
    s.term("it can become 400", TermSentences::lastDay);
    s.term("Accounts are 0 to 7", TermSentences::accounts);
    s.term("A draft has 0 to 4 legs, none at first", TermSentences::draft);
    s.term("an amount, -10000 to 10000, but not 0", TermSentences::amounts);
    s.term("a draft with 2 legs at least", TermSentences::fewestLegs);
    s.term("whose amounts are 0 together", TermSentences::balanced);
    s.term("the draft is empty then", TermSentences::emptyThen);
    s.term("Pages are numbered from 0 on", TermSentences::pageNumbers);
    s.term("at most 80 are written", TermSentences::mostPages);
    s.term("A page has a day, that of its writing", TermSentences::dayOfWriting);
    s.term("a text, 0 to 9999", TermSentences::texts);
    s.term("the legs of the draft in their order", TermSentences::order);
    s.term("on pages written on that day or ahead of it", TermSentences::balanceDays);
    s.term("as they were written", TermSentences::balanceAsWritten);
    s.term("the same text and the same legs, each amount with the other sign", TermSentences::reversal);
    s.term("A page is reversed once at most", TermSentences::onceAtMost);
    s.term("a reversal is not reversed", TermSentences::noReversalOfReversal);
    s.term("is true if it is as it was written, number by number", TermSentences::trueInBook);
    s.term("in the book or in a copy, is true", TermSentences::trueInCopy);
    s.term("The mark of a page is a number that is kept for good", TermSentences::markForGood);
    s.term("m is 1 at first; for each number v", TermSentences::markNumbers);
    s.term("by 1000003", TermSentences::markWraps);
    s.term("In the book a page stands, is burnt, or is struck", TermSentences::states);
    s.term("A page that stands can be altered", TermSentences::altered);
    s.term("becomes another one, or the same", TermSentences::alteredToTheSame);
    CopyTermSentences.all(s);
    CourtTermSentences.all(s);
    ExceptionTermSentences.all(s);
  }

  private static void lastCall() {
    LedgerKiln write = Check.after(x -> Play.times(254, () -> { x.leg(0, 1); x.wipe(); }));
    write.day();
    write.leg(0, 10);
    write.leg(7, -10);
    Check.due("the 512th call writes", write.write(9999), 0);
    LedgerKiln refused = Check.after(x -> Play.times(511, () -> x.pages()));
    Check.due("the 512th call is refused", Check.answer(refused, x -> x.leg(8, 1)), "IndexOutOfBoundsException");
    LedgerKiln thrown = Check.after(x -> Play.times(510, () -> Check.answer(x, y -> y.state(0))));
    Check.due("the 511th call, behind 510 refused ones", thrown.pass(100), 100);
    Check.due("the 512th call, behind 510 refused ones", thrown.open(), 0);
  }

  private static void balancesAre(String what, LedgerKiln x, Object kept, Object byPages, Object byCopies) {
    Check.due(what + ": balance", x.balance(0, 5), kept);
    Check.due(what + ": balanceByPages", Check.answer(x, y -> y.balanceByPages(0, 5)), byPages);
    Check.due(what + ": balanceByCopies", Check.answer(x, y -> y.balanceByCopies(0, 5)), byCopies);
  }

  private static void threeBalances() {
    LedgerKiln x = Check.after(y -> y.pass(5));
    balancesAre("no pages", x, 0, 0, 0);
    Play.page(x, 0, 1, 30, 1);
    balancesAre("a page", x, 30, 30, 30);
    x.copy();
    x.alter(0, 0, 31);
    balancesAre("altered", x, 30, 31, 30);
    x.carry(0, false);
    balancesAre("altered, its copy outside", x, 30, 31, "IllegalStateException");
    x.burn(0, 0);
    balancesAre("burnt, its copy outside", x, 30, "IllegalStateException", "IllegalStateException");
    x.carry(0, true);
    balancesAre("burnt", x, 30, "IllegalStateException", 30);
    x.restore(0);
    balancesAre("restored", x, 30, 30, 30);
    x.strike(x.open(), 0);
    balancesAre("struck", x, 30, 30, 30);
  }

  private static void firstDay() {
    LedgerKiln x = new LedgerKiln();
    Check.due("day", x.day(), 0);
    Play.page(x, 0, 1, 5, 0);
    Check.due("a page of the day 0", x.balance(0, 0), 5);
    Check.due("its mark", x.mark(0), Play.markOf(0, 0, 0, 5, 1, -5));
    Check.refusesArgument("the day 1 is not there yet", Play.nothing(), y -> y.balance(0, 1));
  }

  private static void lastDay() {
    LedgerKiln x = Check.after(y -> Play.until(y, 399));
    Check.due("the day 400", x.pass(1), 400);
    Check.due("day", x.day(), 400);
    Play.page(x, 0, 1, 5, 9);
    Check.due("a page of the day 400", x.balance(0, 400), 5);
    Check.due("none on the day 399", x.balance(0, 399), 0);
    Check.due("its mark", x.mark(0), Play.markOf(400, 9, 0, 5, 1, -5));
    Check.due("held on the day 400", x.hold(x.open(), 0, 400, 400), 1);
    Check.refusesState("one day more", y -> Play.until(y, 400), y -> y.pass(1));
    Check.refusesState("100 days more", y -> Play.until(y, 400), y -> y.pass(100));
  }

  private static void accounts() {
    LedgerKiln x = Check.after(y -> {
      Play.page(y, 0, 7, 5, 0);
      y.open();
    });
    Check.due("hold 0", x.hold(0, 0, 0, 0), 1);
    Check.due("hold 7", x.hold(0, 7, 0, 0), 1);
    x.strike(0, 0);
    Check.due("proven 0", x.proven(0, 0), 5);
    Check.due("proven 7", x.proven(0, 7), -5);
    Check.due("balance 0", x.balance(0, 0), 5);
    Check.due("balance 7", x.balance(7, 0), -5);
    Check.due("balanceByPages 7", x.balanceByPages(7, 0), -5);
    Check.due("balanceByCopies 7", x.balanceByCopies(7, 0), -5);
    Consumer<LedgerKiln> one = y -> {
      Play.page(y, 0, 7, 5, 0);
      y.strike(y.open(), 0);
    };
    Edges.noSuch("leg", 8, one, (y, account) -> y.leg(account, 1));
    Edges.noSuch("hold", 8, one, (y, account) -> y.hold(0, account, 0, 0));
    Edges.noSuch("proven", 8, one, (y, account) -> y.proven(0, account));
    Edges.noSuch("balance", 8, one, (y, account) -> y.balance(account, 0));
    Edges.noSuch("balanceByPages", 8, one, (y, account) -> y.balanceByPages(account, 0));
    Edges.noSuch("balanceByCopies", 8, one, (y, account) -> y.balanceByCopies(account, 0));
  }

  private static void draft() {
    Check.due("none at first", new LedgerKiln().wipe(), 0);
    LedgerKiln x = new LedgerKiln();
    for (int leg = 1; leg <= 4; leg++) {
      Check.due("leg " + leg, x.leg(leg, leg % 2 == 0 ? -leg : leg), leg);
    }
    Check.due("a fifth", Check.answer(x, y -> y.leg(5, 2)), "IllegalStateException");
    x.wipe();
    LedgerKiln four = Check.after(y -> Play.legs(y, 1, 1, 2, 2, 3, 3, 4, -6));
    Check.due("a fifth", Check.answer(four, y -> y.leg(5, 6)), "IllegalStateException");
    four.write(8);
    Check.due("the four are as they were", four.mark(0), Play.markOf(0, 8, 1, 1, 2, 2, 3, 3, 4, -6));
    Check.due("the next draft has none", four.wipe(), 0);
  }

  private static void amounts() {
    for (int amount : new int[] {-10000, -1, 1, 10000}) {
      LedgerKiln x = Check.after(y -> Play.legs(y, 0, amount, 1, -amount));
      x.write(0);
      Check.due("an amount", x.alter(0, 0, 0), amount);
      Check.due("the other amount", x.alter(0, 1, 0), -amount);
    }
    Consumer<LedgerKiln> one = y -> y.leg(3, 3);
    Edges.outOf("amount", -10000, 10000, one, (y, amount) -> y.leg(0, amount));
    Check.refusesArgument("the amount 0", one, y -> y.leg(0, 0));
  }

  private static void fewestLegs() {
    Check.refusesState("no legs", Play.nothing(), y -> y.write(0));
    Check.refusesState("one leg", y -> y.leg(0, 1), y -> y.write(0));
    Check.due("two legs", Check.after(y -> Play.legs(y, 0, 1, 1, -1)).write(0), 0);
    Check.due("two legs for one account", Check.after(y -> Play.legs(y, 0, 1, 0, -1)).write(0), 0);
    Check.due("three legs", Check.after(y -> Play.legs(y, 0, 1, 1, 1, 2, -2)).write(0), 0);
    Check.due("four legs", Check.after(y -> Play.legs(y, 0, 1, 1, 1, 2, 1, 3, -3)).write(0), 0);
    Check.refusesState("no legs any more", y -> { Play.legs(y, 0, 1, 1, -1); y.wipe(); }, y -> y.write(0));
  }

  private static void balanced() {
    Check.due("as much as can be",
        Check.after(y -> Play.legs(y, 0, 10000, 1, 10000, 2, -10000, 3, -10000)).write(0), 0);
    Check.refusesState("1 too much", y -> Play.legs(y, 0, 10000, 1, -9999), y -> y.write(0));
    Check.refusesState("1 too little", y -> Play.legs(y, 0, 9999, 1, -10000), y -> y.write(0));
    Check.refusesState("the most", y -> Play.legs(y, 0, 10000, 1, 10000, 2, 10000, 3, 10000), y -> y.write(0));
    Check.refusesState("the least",
        y -> Play.legs(y, 0, -10000, 1, -10000, 2, -10000, 3, -10000), y -> y.write(0));
    Check.refusesState("0 without the last one", y -> Play.legs(y, 0, 5, 1, -5, 2, 1), y -> y.write(0));
    Check.refusesState("0 without the first one", y -> Play.legs(y, 0, 1, 1, 5, 2, -5), y -> y.write(0));
    Check.refusesState("0 for each account, not together", y -> Play.legs(y, 0, 1, 0, 1), y -> y.write(0));
    LedgerKiln x = Check.after(y -> Play.legs(y, 0, 5, 1, -4));
    Check.due("refused", Check.answer(x, y -> y.write(3)), "IllegalStateException");
    x.leg(2, -1);
    Check.due("one leg more", x.write(3), 0);
    Check.due("the refused draft stayed", x.mark(0), Play.markOf(0, 3, 0, 5, 1, -4, 2, -1));
  }

  private static void emptyThen() {
    LedgerKiln x = Check.after(y -> { Play.legs(y, 0, 1, 1, 2, 2, 3, 3, -6); y.write(0); });
    Check.due("the same again", Check.answer(x, y -> y.write(0)), "IllegalStateException");
    Check.due("the first leg of the next one", x.leg(5, 4), 1);
    Check.due("not enough yet", Check.answer(x, y -> y.write(0)), "IllegalStateException");
    x.leg(5, -4);
    x.write(1);
    Check.due("no leg of the first one", x.mark(1), Play.markOf(0, 1, 5, 4, 5, -4));
    Check.due("two legs alone", Check.answer(x, y -> y.alter(1, 2, 0)), "IllegalStateException");
    Check.due("the first page stays", x.isTrue(0), true);
  }

  private static void pageNumbers() {
    LedgerKiln x = new LedgerKiln();
    for (int page = 0; page < 80; page++) {
      Check.due("written", Play.page(x, 0, 1, 1, page), page);
    }
    Check.due("text of the first", x.text(0), 0);
    Check.due("text of the last", x.text(79), 79);
    Check.due("pages", x.pages(), 80);
  }

  private static void mostPages() {
    Consumer<LedgerKiln> draft = y -> Play.legs(y, 4, 6, 5, -6);
    Check.due("the 80th", Check.after(y -> { Play.oneShort(y); draft.accept(y); }).write(1), 79);
    Check.due("the 80th, a reversal", Check.after(Play::oneShort).reverse(78), 79);
    Consumer<LedgerKiln> full = y -> { Play.oneShort(y); Play.page(y, 0, 1, 1, 1); draft.accept(y); };
    Check.refusesState("an 81st", full, y -> y.write(1));
    Check.refusesState("an 81st, a reversal", full, y -> y.reverse(78));
    Consumer<LedgerKiln> gone = y -> { full.accept(y); y.strike(y.open(), 0); y.burn(0, 70); };
    Check.refusesState("an 81st, others burnt and struck", gone, y -> y.write(1));
    Check.refusesState("an 81st, a reversal, others burnt and struck", gone, y -> y.reverse(78));
    LedgerKiln x = Check.after(full);
    Check.answer(x, y -> y.write(1));
    Check.due("the refused draft stays", x.wipe(), 2);
  }

  private static void dayOfWriting() {
    LedgerKiln x = new LedgerKiln();
    int[] days = {0, 1, 99, 400};
    for (int page = 0; page < days.length; page++) {
      Play.until(x, days[page]);
      Play.page(x, 0, 1, 1, 0);
      Check.due("the day of now", x.mark(page), Play.markOf(days[page], 0, 0, 1, 1, -1));
    }
    Check.due("the day stays", x.mark(0), Play.markOf(0, 0, 0, 1, 1, -1));
    LedgerKiln draft = Check.after(y -> { Play.legs(y, 0, 1, 1, -1); y.pass(7); });
    draft.write(0);
    Check.due("not that of its first leg", draft.mark(0), Play.markOf(7, 0, 0, 1, 1, -1));
    Check.due("not there ahead of it", draft.balance(0, 6), 0);
  }

  private static void texts() {
    for (int text : new int[] {0, 1, 9998, 9999}) {
      LedgerKiln x = new LedgerKiln();
      Play.page(x, 0, 1, 1, text);
      Check.due("text", x.text(0), text);
      Check.due("mark", x.mark(0), Play.markOf(0, text, 0, 1, 1, -1));
      Check.due("text of the reversal", x.text(x.reverse(0)), text);
    }
    Edges.outOf("text", 0, 9999, y -> Play.legs(y, 0, 1, 1, -1), (y, text) -> y.write(text));
  }

  private static void order() {
    LedgerKiln x = Check.after(y -> {
      Play.legs(y, 7, 4, 0, 3, 7, -9, 2, 2);
      y.write(5);
      Play.legs(y, 2, 2, 7, -9, 0, 3, 7, 4);
      y.write(5);
    });
    Check.due("mark", x.mark(0), Play.markOf(0, 5, 7, 4, 0, 3, 7, -9, 2, 2));
    Check.due("mark, the other way round", x.mark(1), Play.markOf(0, 5, 2, 2, 7, -9, 0, 3, 7, 4));
    int[] amounts = {4, 3, -9, 2};
    for (int leg = 0; leg < 4; leg++) {
      Check.due("leg " + leg, x.alter(0, leg, amounts[leg]), amounts[leg]);
      Check.due("leg " + leg + ", the other way round", x.alter(1, leg, 0), amounts[3 - leg]);
    }
  }

  private static void balanceDays() {
    LedgerKiln x = new LedgerKiln();
    Play.page(x, 0, 1, 1, 0);
    Play.until(x, 10);
    Play.page(x, 0, 1, 10, 0);
    Play.page(x, 0, 1, 100, 0);
    Play.until(x, 11);
    Play.page(x, 0, 1, 1000, 0);
    Play.until(x, 400);
    int[] days = {0, 1, 9, 10, 11, 12, 399, 400};
    int[] sums = {1, 1, 1, 111, 1111, 1111, 1111, 1111};
    for (int i = 0; i < days.length; i++) {
      Check.due("balance on " + days[i], x.balance(0, days[i]), sums[i]);
      Check.due("of the other account", x.balance(1, days[i]), -sums[i]);
      Check.due("by pages on " + days[i], x.balanceByPages(0, days[i]), sums[i]);
      Check.due("by copies on " + days[i], x.balanceByCopies(0, days[i]), sums[i]);
    }
    Check.due("of an account without legs", x.balance(2, 400), 0);
    LedgerKiln late = Check.after(y -> { y.pass(1); Play.page(y, 0, 1, 5, 0); });
    Check.due("ahead of all pages", late.balance(0, 0), 0);
    LedgerKiln legs = Check.after(y -> { Play.legs(y, 3, 4, 3, 5, 3, -2, 2, -7); y.write(0); });
    Check.due("all legs for it", legs.balance(3, 0), 7);
    Play.page(legs, 4, 4, 10000, 0);
    Check.due("legs that are 0 together", legs.balance(4, 0), 0);
  }

  private static void balanceAsWritten() {
    Consumer<LedgerKiln> two = y -> { Play.page(y, 0, 1, 10, 0); Play.page(y, 0, 1, 20, 0); };
    LedgerKiln x = Check.after(two);
    x.alter(0, 0, 9999);
    Check.due("altered", x.balance(0, 0), 30);
    x.burn(0, 0);
    Check.due("burnt", x.balance(0, 0), 30);
    x.strike(x.open(), 1);
    Check.due("struck", x.balance(0, 0), 30);
    LedgerKiln reversed = Check.after(y -> { two.accept(y); y.pass(3); y.reverse(1); });
    Check.due("reversed, ahead of it", reversed.balance(0, 2), 30);
    Check.due("reversed", reversed.balance(0, 3), 10);
    LedgerKiln draft = Check.after(y -> { two.accept(y); Play.legs(y, 0, 5, 1, -5); });
    Check.due("not the draft", draft.balance(0, 0), 30);
  }

  private static void reversal() {
    LedgerKiln x = Check.after(y -> {
      Play.legs(y, 7, 10000, 0, -10000, 3, -1, 7, 1);
      y.write(9999);
      Play.page(y, 5, 5, 2, 0);
      y.pass(12);
    });
    Check.due("number", x.reverse(0), 2);
    Check.due("day, text, legs", x.mark(2), Play.markOf(12, 9999, 7, -10000, 0, 10000, 3, 1, 7, -1));
    Check.due("its text", x.text(2), 9999);
    Check.due("it is true", x.isTrue(2), true);
    Check.due("told", x.reversal(0), 2);
    Check.due("the other page was not reversed", x.reversal(1), -1);
    Check.due("a leg", x.alter(2, 3, 0), -1);
    Check.due("two legs for one account", x.mark(x.reverse(1)), Play.markOf(12, 0, 5, -2, 5, 2));
    Check.due("the reversed page stays", x.mark(0), Play.markOf(0, 9999, 7, 10000, 0, -10000, 3, -1, 7, 1));
    Check.due("the reversed page is true", x.isTrue(0), true);
    LedgerKiln two = Check.after(y -> { Play.legs(y, 0, 1, 1, 1, 2, 1, 3, -3); y.write(0); y.reverse(0); });
    Play.page(two, 0, 1, 4, 0);
    two.reverse(2);
    Check.due("a short one behind a long one", Check.answer(two, y -> y.alter(3, 2, 0)), "IllegalStateException");
  }

  private static void onceAtMost() {
    Consumer<LedgerKiln> one = y -> { Play.pages(y, 1); y.copy(); y.reverse(0); };
    Check.refusesState("twice", one, y -> y.reverse(0));
    Check.refusesState("the reversal burnt", y -> { one.accept(y); y.burn(1, 1); }, y -> y.reverse(0));
    Check.refusesState("the reversal struck", y -> { one.accept(y); y.strike(y.open(), 1); }, y -> y.reverse(0));
    Check.refusesState("burnt and restored",
        y -> { one.accept(y); y.burn(0, 0); y.restore(0); }, y -> y.reverse(0));
    LedgerKiln refused = Check.after(y -> { Play.pages(y, 1); y.alter(0, 0, 9); });
    Check.answer(refused, y -> y.reverse(0));
    refused.alter(0, 0, 1);
    Check.due("a refused one does not count", refused.reverse(0), 1);
  }

  private static void noReversalOfReversal() {
    Consumer<LedgerKiln> one = y -> { Play.pages(y, 2); y.reverse(0); };
    Check.refusesState("a reversal", one, y -> y.reverse(2));
    Check.refusesState("a reversal, its page struck",
        y -> { one.accept(y); y.strike(y.open(), 0); }, y -> y.reverse(2));
    Check.refusesState("a reversal, its page burnt", y -> { one.accept(y); y.burn(0, 0); }, y -> y.reverse(2));
    LedgerKiln x = Check.after(one);
    Check.due("the page beside it", x.reverse(1), 3);
    Check.due("that reversal", Check.answer(x, y -> y.reverse(3)), "IllegalStateException");
    Check.due("a page written just like a reversal", x.reverse(Play.page(x, 0, 1, -1, 0)), 5);
  }

  /** The legs 0: 1, 1: 20, 2: -20, 3: -1 with the text 5. */
  private static void fourLegs(LedgerKiln x) {
    Play.legs(x, 0, 1, 1, 20, 2, -20, 3, -1);
    x.write(5);
  }

  private static void trueInBook() {
    int[] amounts = {1, 20, -20, -1};
    for (int leg = 0; leg < 4; leg++) {
      LedgerKiln x = Check.after(TermSentences::fourLegs);
      x.alter(0, leg, amounts[leg] + 1);
      Check.due("1 more", x.isTrue(0), false);
      x.alter(0, leg, amounts[leg] - 1);
      Check.due("1 less", x.isTrue(0), false);
      x.alter(0, leg, -amounts[leg]);
      Check.due("the other sign", x.isTrue(0), false);
      x.alter(0, leg, 0);
      Check.due("0", x.isTrue(0), false);
      x.alter(0, leg, amounts[leg]);
      Check.due("as it was", x.isTrue(0), true);
    }
    LedgerKiln turned = Check.after(y -> { fourLegs(y); y.alter(0, 0, 20); y.alter(0, 1, 1); });
    Check.due("two amounts exchanged", turned.isTrue(0), false);
    LedgerKiln sum = Check.after(y -> { fourLegs(y); y.alter(0, 0, 2); y.alter(0, 1, 19); });
    Check.due("the same sum", sum.isTrue(0), false);
    Check.due("two rows have one mark", Play.markOf(0, 5, 0, 1, 1, -1), Play.markOf(0, 5, 0, 59, 1, 4664));
    LedgerKiln mark = Check.after(y -> { Play.page(y, 0, 1, 1, 5); y.alter(0, 0, 59); y.alter(0, 1, 4664); });
    Check.due("the same mark", mark.isTrue(0), false);
    Check.due("the same mark, to be reversed", Check.answer(mark, y -> y.reverse(0)), "IllegalStateException");
  }

  private static void trueInCopy() {
    int[] amounts = {1, 20, -20, -1};
    for (int leg = 0; leg < 4; leg++) {
      int altered = leg;
      LedgerKiln x = Check.after(y -> {
        fourLegs(y);
        y.alter(0, altered, amounts[altered] + 1);
        y.copy();
        y.burn(0, 0);
      });
      Check.due("1 more in the copy: lost", x.lost(), 1);
      Check.due("1 more in the copy: restore", x.restore(0), 0);
      Check.due("1 more in the copy: balanceByCopies",
          Check.answer(x, y -> y.balanceByCopies(0, 0)), "IllegalStateException");
    }
    LedgerKiln mark = Check.after(y -> {
      Play.page(y, 0, 1, 1, 5);
      y.alter(0, 0, 59);
      y.alter(0, 1, 4664);
      y.copy();
      y.burn(0, 0);
    });
    Check.due("the same mark in the copy: lost", mark.lost(), 1);
    Check.due("the same mark in the copy: restore", mark.restore(0), 0);
    LedgerKiln back = Check.after(y -> {
      fourLegs(y);
      y.alter(0, 3, 0);
      y.alter(0, 3, -1);
      y.copy();
      y.burn(0, 0);
    });
    Check.due("altered and altered back: lost", back.lost(), 0);
    Check.due("altered and altered back: restore", back.restore(0), 1);
  }

  private static void markForGood() {
    LedgerKiln x = Check.after(TermSentences::fourLegs);
    int mark = Play.markOf(0, 5, 0, 1, 1, 20, 2, -20, 3, -1);
    Check.due("written", x.mark(0), mark);
    x.pass(50);
    Check.due("days later", x.mark(0), mark);
    x.alter(0, 2, 7);
    Check.due("altered", x.mark(0), mark);
    x.alter(0, 2, -20);
    x.copy();
    x.reverse(0);
    Check.due("reversed", x.mark(0), mark);
    x.burn(0, 0);
    Check.due("burnt", x.mark(0), mark);
    x.restore(0);
    Check.due("restored", x.mark(0), mark);
    x.strike(x.open(), 0);
    Check.due("struck", x.mark(0), mark);
  }

  private static void markNumbers() {
    int[][] pages = {
      {0, 0, 0, -10000, 0, 10000},
      {0, 9999, 7, 10000, 7, -10000},
      {0, 1, 0, 10000, 1, 10000, 2, -10000, 3, -10000},
      {0, 1, 3, -10000, 2, -10000, 1, 10000, 0, 10000},
      {0, 77, 6, 1, 5, 2, 4, -3},
      {400, 0, 0, 1, 1, -1},
      {400, 9999, 7, 10000, 6, 10000, 7, -10000, 6, -10000},
    };
    LedgerKiln x = new LedgerKiln();
    for (int page = 0; page < pages.length; page++) {
      int[] row = pages[page];
      Play.until(x, row[0]);
      for (int i = 2; i < row.length; i += 2) {
        x.leg(row[i], row[i + 1]);
      }
      x.write(row[1]);
      Check.due("page " + page, x.mark(page), Play.markOf(row));
    }
    Check.due("by hand, day 0, text 0, 0: -10000, 0: 10000", x.mark(0), markByHand());
  }

  /** The same page with every step written out. */
  private static int markByHand() {
    long m = 1;
    m = (131 * m + 17 * 0 + 7) % 1000003;
    m = (131 * m + 17 * 0 + 7) % 1000003;
    m = (131 * m + 17 * 0 + 7) % 1000003;
    m = (131 * m + 17 * 0 + 7) % 1000003;
    m = (131 * m + 17 * 0 + 7) % 1000003;
    m = (131 * m + 17 * 20000 + 7) % 1000003;
    return (int) m;
  }

  private static void markWraps() {
    LedgerKiln x = Check.after(y -> { Play.page(y, 4, 6, 16, 2); Play.page(y, 6, 7, 51, 11); });
    Check.due("the least mark", x.mark(0), 0);
    Check.due("the greatest mark", x.mark(1), 1000002);
    Play.legs(x, 4, 16, 6, -16);
    Check.due("the least mark is proven", x.proves(0, 2), true);
    Check.due("and is not the greatest", x.proves(1, 2), false);
  }

  private static void states() {
    LedgerKiln x = Check.after(y -> { Play.pages(y, 3); y.burn(1, 1); y.strike(y.open(), 2); });
    Check.due("stands", x.state(0), 0);
    Check.due("burnt", x.state(1), 1);
    Check.due("struck", x.state(2), 2);
    Check.due("gaps", x.gaps(), 1);
    Check.due("a struck page does not burn", x.burn(2, 2), 0);
    Check.due("a struck page is not burnt", x.state(2), 2);
    Check.due("a burnt page is not struck", Check.answer(x, y -> y.strike(0, 1)), "IllegalStateException");
    x.alter(0, 0, 0);
    Check.due("altered, it stands", x.state(0), 0);
  }

  private static void altered() {
    Consumer<LedgerKiln> one = y -> { Play.pages(y, 2); y.copy(); };
    LedgerKiln x = Check.after(one);
    Check.due("it stands", x.alter(0, 1, 7), -1);
    Check.due("once more", x.alter(0, 1, -7), 7);
    Check.due("the other leg stays", x.alter(0, 0, 1), 1);
    Check.due("the other page stays", x.isTrue(1), true);
    Check.refusesState("burnt", y -> { one.accept(y); y.burn(0, 0); }, y -> y.alter(0, 0, 5));
    Check.refusesState("struck", y -> { one.accept(y); y.strike(y.open(), 0); }, y -> y.alter(0, 0, 5));
    LedgerKiln restored = Check.after(y -> { one.accept(y); y.burn(0, 0); y.restore(0); });
    Check.due("burnt and restored", restored.alter(0, 0, 5), 1);
  }

  private static void alteredToTheSame() {
    LedgerKiln x = Check.after(y -> Play.pages(y, 1));
    Check.due("the same", x.alter(0, 0, 1), 1);
    Check.due("it is true", x.isTrue(0), true);
    Check.due("another one", x.alter(0, 0, 2), 1);
    Check.due("the same as that", x.alter(0, 0, 2), 2);
    Check.due("it is not true", x.isTrue(0), false);
    Check.due("what was written", x.alter(0, 0, 1), 2);
    Check.due("it is true again", x.isTrue(0), true);
  }
}
