import java.util.function.Consumer;

/** The sentences of the promises 28 to 30, each with its boundary cases. */
final class BalanceSentences {
  private static final String REFUSED = "IllegalStateException";

  private BalanceSentences() {}

  static void all(Sentences s) {
    s.promise(28, "Returns the balance of an account on a day, as it is kept", BalanceSentences::kept);
    s.promise(28, "0 to the day of now", BalanceSentences::keptDays);
    s.promise(28, "Returns the balance.", BalanceSentences::keptMost);
    s.promise(28, "if there is no such account", () ->
        Edges.noSuch("balance", 8, BalanceSentences::some, (x, account) -> x.balance(account, 5)));
    s.promise(28, "if day is out of range", BalanceSentences::keptRefusesDay);
    s.promise(29, "Returns the same from the pages of the book, as they stand, and the proofs",
        BalanceSentences::pages);
    s.promise(29, "0 to the day of now", BalanceSentences::pagesDays);
    s.promise(29, "another one, if a page up to that day was altered", BalanceSentences::pagesAltered);
    s.promise(29, "if there is no such account", () ->
        Edges.noSuch("balanceByPages", 8, BalanceSentences::some, (x, account) -> x.balanceByPages(account, 5)));
    s.promise(29, "if day is out of range", BalanceSentences::pagesRefusesDay);
    s.promise(29, "if a page up to that day is burnt", BalanceSentences::pagesRefusesBurnt);
    s.promise(30, "from the copy with the lowest number, in the vault", BalanceSentences::copies);
    s.promise(30, "in which it stands and is true", BalanceSentences::copiesTrue);
    s.promise(30, "from the proof, if it was struck", BalanceSentences::copiesProof);
    s.promise(30, "otherwise from the book", BalanceSentences::copiesBook);
    s.promise(30, "0 to the day of now", BalanceSentences::copiesDays);
    s.promise(30, "Returns the balance.", BalanceSentences::copiesMost);
    s.promise(30, "if there is no such account", () ->
        Edges.noSuch("balanceByCopies", 8, BalanceSentences::some, (x, account) -> x.balanceByCopies(account, 5)));
    s.promise(30, "if day is out of range", BalanceSentences::copiesRefusesDay);
    s.promise(30, "as it is burnt in the book, or not true there", BalanceSentences::copiesRefusesNowhere);
  }

  /** A page for 0 and 1 on each of the days 0, 4 and 5: 1, 10 and 100; the day of now is 5. */
  private static void some(LedgerKiln x) {
    Play.page(x, 0, 1, 1, 0);
    x.pass(4);
    Play.page(x, 0, 1, 10, 0);
    x.pass(1);
    Play.page(x, 0, 1, 100, 0);
  }

  /** 80 pages in 400 calls; the account 0 has 20000 more of each, 7 has as much less. */
  private static void most(LedgerKiln x) {
    for (int page = 0; page < 80; page++) {
      Play.legs(x, 0, 10000, 0, 10000, 7, -10000, 7, -10000);
      x.write(0);
    }
  }

  private static void kept() {
    LedgerKiln x = Check.after(BalanceSentences::some);
    int[] due = {1, 1, 1, 1, 11, 111};
    for (int day = 0; day <= 5; day++) {
      Check.due("day " + day, x.balance(0, day), due[day]);
      Check.due("the other account, day " + day, x.balance(1, day), -due[day]);
      Check.due("no legs, day " + day, x.balance(7, day), 0);
    }
    x.burn(0, 0);
    x.alter(1, 0, 9999);
    x.strike(x.open(), 2);
    for (int day = 0; day <= 5; day++) {
      Check.due("burnt, altered and struck, day " + day, x.balance(0, day), due[day]);
    }
    x.pass(3);
    Play.page(x, 0, 1, 1000, 0);
    Check.due("another page", x.balance(0, 8), 1111);
    Check.due("ahead of it", x.balance(0, 7), 111);
    x.leg(0, 5);
    Check.due("not the draft", x.balance(0, 8), 1111);
  }

  private static void keptDays() {
    Check.due("no pages", Check.answerAfter(Play.nothing(), x -> x.balance(0, 0)), 0);
    LedgerKiln x = Check.after(y -> { some(y); Play.until(y, 400); Play.page(y, 0, 1, 1000, 0); });
    Check.due("0", x.balance(0, 0), 1);
    Check.due("399", x.balance(0, 399), 111);
    Check.due("400", x.balance(0, 400), 1111);
  }

  private static void keptMost() {
    LedgerKiln x = Check.after(BalanceSentences::most);
    Check.due("the most", x.balance(0, 0), 1600000);
    Check.due("the least", x.balance(7, 0), -1600000);
    LedgerKiln zero = Check.after(y -> { Play.page(y, 3, 3, 5, 0); Play.page(y, 4, 5, 5, 0); y.reverse(1); });
    Check.due("legs that are 0 together", zero.balance(3, 0), 0);
    Check.due("a page and its reversal", zero.balance(4, 0), 0);
  }

  private static void keptRefusesDay() {
    Edges.outOf("day", 0, 5, BalanceSentences::some, (x, day) -> x.balance(0, day));
    Edges.outOf("day, the first day", 0, 0, Play.nothing(), (x, day) -> x.balance(7, day));
    Edges.outOf("day, the last day", 0, 400, x -> Play.until(x, 400), (x, day) -> x.balance(0, day));
  }

  private static void pages() {
    LedgerKiln x = Check.after(BalanceSentences::some);
    int[] due = {1, 1, 1, 1, 11, 111};
    for (int day = 0; day <= 5; day++) {
      Check.due("day " + day, x.balanceByPages(0, day), due[day]);
    }
    x.open();
    x.strike(0, 1);
    for (int day = 0; day <= 5; day++) {
      Check.due("one struck, day " + day, x.balanceByPages(0, day), due[day]);
    }
    x.strike(0, 0);
    x.strike(0, 2);
    for (int day = 0; day <= 5; day++) {
      Check.due("all struck, day " + day, x.balanceByPages(1, day), -due[day]);
    }
    LedgerKiln edge = Check.after(BalanceSentences::most);
    Check.due("the most", edge.balanceByPages(0, 0), 1600000);
    Check.due("the least", edge.balanceByPages(7, 0), -1600000);
  }

  private static void pagesDays() {
    Check.due("no pages", Check.answerAfter(Play.nothing(), x -> x.balanceByPages(0, 0)), 0);
    LedgerKiln x = Check.after(y -> { some(y); Play.until(y, 400); Play.page(y, 0, 1, 1000, 0); });
    Check.due("0", x.balanceByPages(0, 0), 1);
    Check.due("399", x.balanceByPages(0, 399), 111);
    Check.due("400", x.balanceByPages(0, 400), 1111);
  }

  private static void pagesAltered() {
    LedgerKiln x = Check.after(y -> { some(y); y.copy(); y.alter(1, 0, 20); });
    Check.due("ahead of it", x.balanceByPages(0, 3), 1);
    Check.due("on its day", x.balanceByPages(0, 4), 21);
    Check.due("behind it", x.balanceByPages(0, 5), 121);
    Check.due("the leg that was not altered", x.balanceByPages(1, 4), -11);
    x.alter(1, 0, -10000);
    Check.due("altered again", x.balanceByPages(0, 4), -9999);
    x.alter(1, 0, 0);
    Check.due("altered to 0", x.balanceByPages(0, 4), 1);
    x.restore(0);
    Check.due("restored", x.balanceByPages(0, 4), 11);
    x.alter(1, 0, 10);
    Check.due("altered to the same", x.balanceByPages(0, 4), 11);
  }

  private static void pagesRefusesDay() {
    Edges.outOf("day", 0, 5, BalanceSentences::some, (x, day) -> x.balanceByPages(0, day));
    Edges.outOf("day, the first day", 0, 0, Play.nothing(), (x, day) -> x.balanceByPages(7, day));
    Edges.outOf("day, the last day", 0, 400, x -> Play.until(x, 400), (x, day) -> x.balanceByPages(0, day));
    Edges.outOf("day, burnt", 0, 5, x -> { some(x); x.burn(0, 2); }, (x, day) -> x.balanceByPages(0, day));
  }

  private static void pagesRefusesBurnt() {
    Consumer<LedgerKiln> burnt = x -> { some(x); x.copy(); x.burn(1, 1); };
    Check.due("the day ahead", Check.answerAfter(burnt, x -> x.balanceByPages(0, 3)), 1);
    Check.refusesState("its day", burnt, x -> x.balanceByPages(0, 4));
    Check.refusesState("the day behind", burnt, x -> x.balanceByPages(0, 5));
    Check.refusesState("an account that it has no leg for", burnt, x -> x.balanceByPages(7, 5));
    Check.refusesState("the first", x -> { some(x); x.burn(0, 0); }, x -> x.balanceByPages(0, 0));
    Check.refusesState("the last", x -> { some(x); x.burn(2, 2); }, x -> x.balanceByPages(0, 5));
    Check.due("restored",
        Check.answerAfter(x -> { burnt.accept(x); x.restore(0); }, x -> x.balanceByPages(0, 5)), 111);
    Check.refusesState("the last of 80", x -> { Play.fullBook(x); x.burn(79, 79); }, x -> x.balanceByPages(0, 0));
  }

  private static void copies() {
    LedgerKiln x = Check.after(y -> { some(y); y.copy(); y.copy(); y.copy(); y.burn(0, 2); });
    Check.due("all burnt", x.balanceByCopies(0, 5), 111);
    Check.due("up to a day", x.balanceByCopies(0, 4), 11);
    x.carry(0, false);
    x.rot(1, 1);
    Check.due("from the next, and the next", x.balanceByCopies(0, 5), 111);
    x.carry(2, false);
    Check.due("none in the vault", Check.answer(x, y -> y.balanceByCopies(0, 5)), REFUSED);
    Check.due("up to the day ahead", x.balanceByCopies(0, 3), 1);
    x.carry(0, true);
    Check.due("the first is back", x.balanceByCopies(0, 5), 111);
    x.throwAway(0);
    Check.due("thrown away", Check.answer(x, y -> y.balanceByCopies(0, 5)), REFUSED);
    LedgerKiln last = Check.after(y -> { Play.pages(y, 1); Play.times(16, () -> y.copy()); y.burn(0, 0); });
    for (int copy = 0; copy < 15; copy++) {
      last.rot(copy, 0);
    }
    Check.due("in the 16th alone", last.balanceByCopies(0, 0), 1);
    last.rot(15, 0);
    Check.due("in none of 16", Check.answer(last, y -> y.balanceByCopies(0, 0)), REFUSED);
    LedgerKiln chain = Check.after(y -> { y.copy(); some(y); y.copyFrom(0); y.burn(0, 2); y.carry(0, false); });
    Check.due("a partial one, its base outside", chain.balanceByCopies(0, 5), 111);
  }

  private static void copiesTrue() {
    LedgerKiln x = Check.after(y -> {
      some(y);
      y.alter(1, 0, 20);
      y.copy();
      y.alter(1, 0, 10);
      y.copy();
      y.alter(1, 0, 30);
    });
    Check.due("not true in the first, nor in the book", x.balanceByCopies(0, 5), 111);
    x.carry(1, false);
    Check.due("the true one outside", Check.answer(x, y -> y.balanceByCopies(0, 5)), REFUSED);
    x.alter(1, 0, 10);
    Check.due("true in the book", x.balanceByCopies(0, 5), 111);
  }

  private static void copiesProof() {
    LedgerKiln x = Check.after(y -> {
      some(y);
      Play.legs(y, 0, 1000, 2, 5, 0, 1000, 1, -2005);
      y.write(0);
      y.copy();
      y.open();
      y.strike(0, 0);
      y.strike(0, 3);
    });
    Check.due("two struck", x.balanceByCopies(0, 5), 2111);
    Check.due("another account", x.balanceByCopies(2, 5), 5);
    x.burn(0, 3);
    Check.due("the others burnt, in the copy", x.balanceByCopies(0, 5), 2111);
    x.throwAway(0);
    Check.due("the first one alone", x.balanceByCopies(0, 3), 1);
    Check.due("the others nowhere", Check.answer(x, y -> y.balanceByCopies(0, 4)), REFUSED);
    LedgerKiln outside = Check.after(y -> { some(y); y.copy(); y.carry(0, false); y.strike(y.open(), 0); });
    Check.due("struck, it stands outside", outside.balanceByCopies(0, 5), 111);
  }

  private static void copiesBook() {
    LedgerKiln x = Check.after(BalanceSentences::some);
    int[] due = {1, 1, 1, 1, 11, 111};
    for (int day = 0; day <= 5; day++) {
      Check.due("no copies, day " + day, x.balanceByCopies(0, day), due[day]);
    }
    x.copy();
    x.rot(0, 1);
    Check.due("rotten in the copy", x.balanceByCopies(0, 5), 111);
    x.pass(1);
    Play.page(x, 0, 1, 1000, 0);
    Check.due("written behind the copy", x.balanceByCopies(0, 6), 1111);
    x.carry(0, false);
    Check.due("the copy outside", x.balanceByCopies(0, 6), 1111);
  }

  private static void copiesDays() {
    Check.due("no pages", Check.answerAfter(Play.nothing(), x -> x.balanceByCopies(0, 0)), 0);
    LedgerKiln x = Check.after(y -> { some(y); Play.until(y, 400); Play.page(y, 0, 1, 1000, 0); });
    Check.due("0", x.balanceByCopies(0, 0), 1);
    Check.due("399", x.balanceByCopies(0, 399), 111);
    Check.due("400", x.balanceByCopies(0, 400), 1111);
  }

  private static void copiesMost() {
    LedgerKiln x = Check.after(BalanceSentences::most);
    Check.due("the most, book", x.balanceByCopies(0, 0), 1600000);
    x.copy();
    x.burn(0, 79);
    Check.due("the most, copies", x.balanceByCopies(0, 0), 1600000);
    Check.due("the least, copies", x.balanceByCopies(7, 0), -1600000);
  }

  private static void copiesRefusesDay() {
    Edges.outOf("day", 0, 5, BalanceSentences::some, (x, day) -> x.balanceByCopies(0, day));
    Edges.outOf("day, the first day", 0, 0, Play.nothing(), (x, day) -> x.balanceByCopies(7, day));
    Edges.outOf("day, the last day", 0, 400, x -> Play.until(x, 400), (x, day) -> x.balanceByCopies(0, day));
    Edges.outOf("day, burnt", 0, 5, x -> { some(x); x.burn(0, 2); }, (x, day) -> x.balanceByCopies(0, day));
  }

  private static void copiesRefusesNowhere() {
    Consumer<LedgerKiln> burnt = x -> { some(x); x.burn(1, 1); };
    Check.due("burnt, the day ahead", Check.answerAfter(burnt, x -> x.balanceByCopies(0, 3)), 1);
    Check.refusesState("burnt, its day", burnt, x -> x.balanceByCopies(0, 4));
    Check.refusesState("burnt, the day behind", burnt, x -> x.balanceByCopies(0, 5));
    Check.refusesState("burnt, another account", burnt, x -> x.balanceByCopies(7, 5));
    Consumer<LedgerKiln> altered = x -> { some(x); x.alter(1, 0, 11); };
    Check.due("not true, the day ahead", Check.answerAfter(altered, x -> x.balanceByCopies(0, 3)), 1);
    Check.refusesState("not true, its day", altered, x -> x.balanceByCopies(0, 4));
    Check.refusesState("not true, another account", altered, x -> x.balanceByCopies(7, 4));
    Check.refusesState("not true, its leg was not altered", altered, x -> x.balanceByCopies(1, 4));
    Check.refusesState("not true in the copy either",
        x -> { some(x); x.alter(1, 0, 11); x.copy(); }, x -> x.balanceByCopies(0, 4));
    Check.refusesState("true outside alone",
        x -> { some(x); x.copy(); x.carry(0, false); x.burn(1, 1); }, x -> x.balanceByCopies(0, 4));
    Check.refusesState("the last of 80", x -> { Play.fullBook(x); x.burn(79, 79); }, x -> x.balanceByCopies(0, 0));
  }
}
