import java.util.function.BiFunction;
import java.util.function.Consumer;

/** The sentences of the promises 19 to 27, each with its boundary cases. */
final class PageSentences {
  private PageSentences() {}

  static void all(Sentences s) {
    s.promise(19, "Returns the day of now", PageSentences::day);
    s.promise(20, "Returns how many pages were written", PageSentences::pages);
    s.promise(21, "Returns how a page is in the book", PageSentences::stateInBook);
    s.promise(21, "Returns 0 it stands, 1 burnt, 2 struck", PageSentences::state);
    s.promise(21, "if there is no such page", () -> needsPage((x, page) -> x.state(page)));
    s.promise(22, "Tells whether a page stands in the book and is true", PageSentences::isTrue);
    s.promise(22, "if there is no such page", () -> needsPage((x, page) -> x.isTrue(page)));
    s.promise(23, "Returns the text of a page in the book", PageSentences::text);
    s.promise(23, "-1 if it does not stand", PageSentences::noText);
    s.promise(23, "if there is no such page", () -> needsPage((x, page) -> x.text(page)));
    s.promise(24, "Returns the mark of a page", PageSentences::mark);
    s.promise(24, "if there is no such page", () -> needsPage((x, page) -> x.mark(page)));
    s.promise(25, "Returns the reversal of a page", PageSentences::reversal);
    s.promise(25, "-1 if it was not reversed", PageSentences::noReversal);
    s.promise(25, "if there is no such page", () -> needsPage((x, page) -> x.reversal(page)));
    s.promise(26, "Tells whether the draft, with a text and the day of a page", PageSentences::proves);
    s.promise(26, "would have its mark", PageSentences::provesByMarkAlone);
    s.promise(26, "0 to 9999", PageSentences::provesTexts);
    s.promise(26, "Returns whether it would", PageSentences::provesChangesNothing);
    s.promise(26, "if there is no such page", () -> needsPage((x, page) -> x.proves(page, 0)));
    s.promise(26, "if text is out of range", PageSentences::provesRefusesText);
    s.promise(27, "Returns the sum that the proof of a page tells for an account", PageSentences::proven);
    s.promise(27, "0 if the page was not struck", PageSentences::nothingProven);
    s.promise(27, "if there is no such page or account", PageSentences::provenNeedsBoth);
  }

  /** Pages 0 stands, 1 burnt, 2 struck, 3 altered, each with the text 10 more than its number. */
  private static void kinds(LedgerKiln x) {
    for (int page = 0; page < 4; page++) {
      Play.page(x, 0, 1, 100 + page, 10 + page);
    }
    x.copy();
    x.burn(1, 1);
    x.strike(x.open(), 2);
    x.alter(3, 0, 7);
  }

  private static void needsPage(BiFunction<LedgerKiln, Integer, Object> call) {
    Edges.noSuch("no pages", 0, x -> Play.legs(x, 0, 1, 1, -1), call);
    Edges.noSuch("one page", 1, x -> Play.pages(x, 1), call);
    Edges.noSuch("four pages", 4, PageSentences::kinds, call);
    Edges.noSuch("80 pages", 80, Play::fullBook, call);
  }

  private static void day() {
    LedgerKiln x = new LedgerKiln();
    Check.due("at first", x.day(), 0);
    x.pass(1);
    Check.due("1", x.day(), 1);
    Play.page(x, 0, 1, 1, 0);
    x.copy();
    x.hold(x.open(), 0, 9, 9);
    Check.due("no other call lets days go by", x.day(), 1);
    Check.answer(x, y -> y.pass(101));
    Check.answer(x, y -> y.pass(0));
    Check.due("nor a refused one", x.day(), 1);
    Play.until(x, 400);
    Check.due("the last one", x.day(), 400);
  }

  private static void pages() {
    LedgerKiln x = new LedgerKiln();
    Check.due("none", x.pages(), 0);
    Play.legs(x, 0, 1, 1, -1);
    Check.due("a draft is none", x.pages(), 0);
    x.write(0);
    Check.due("one", x.pages(), 1);
    x.reverse(0);
    Check.due("a reversal is one", x.pages(), 2);
    x.burn(0, 0);
    x.strike(x.open(), 1);
    Check.due("burnt and struck ones", x.pages(), 2);
    Check.due("79", Check.answerAfter(Play::oneShort, y -> y.pages()), 79);
    Check.due("80", Check.answerAfter(Play::fullBook, y -> y.pages()), 80);
    LedgerKiln refused = Check.after(Play::fullBook);
    Check.answer(refused, y -> y.reverse(79));
    Check.due("a refused one is none", refused.pages(), 80);
  }

  private static void stateInBook() {
    LedgerKiln x = Check.after(y -> { Play.pages(y, 1); y.copy(); y.rot(0, 0); });
    Check.due("rotten in a copy", x.state(0), 0);
    Check.due("burnt, it stands in a copy",
        Check.answerAfter(y -> { Play.pages(y, 1); y.copy(); y.burn(0, 0); }, y -> y.state(0)), 1);
    Check.due("struck, it stands outside", Check.answerAfter(y -> {
      Play.pages(y, 1);
      y.copy();
      y.carry(0, false);
      y.strike(y.open(), 0);
    }, y -> y.state(0)), 2);
  }

  private static void state() {
    LedgerKiln x = Check.after(PageSentences::kinds);
    int[] states = {0, 1, 2, 0};
    for (int page = 0; page < 4; page++) {
      Check.due("page " + page, x.state(page), states[page]);
    }
    x.burn(0, 3);
    x.restore(0);
    int[] later = {0, 0, 2, 0};
    for (int page = 0; page < 4; page++) {
      Check.due("burnt and restored, page " + page, x.state(page), later[page]);
    }
    LedgerKiln all = Check.after(y -> { Play.fullBook(y); y.burn(79, 79); });
    Check.due("the last of 80", all.state(79), 1);
    Check.due("the one ahead of it", all.state(78), 0);
  }

  private static void isTrue() {
    LedgerKiln x = Check.after(PageSentences::kinds);
    boolean[] due = {true, false, false, false};
    for (int page = 0; page < 4; page++) {
      Check.due("page " + page, x.isTrue(page), due[page]);
    }
    x.alter(3, 0, 103);
    Check.due("altered back", x.isTrue(3), true);
    x.alter(3, 0, 104);
    Check.due("1 more", x.isTrue(3), false);
    x.alter(3, 0, 102);
    Check.due("1 less", x.isTrue(3), false);
    x.restore(0);
    Check.due("restored", x.isTrue(1) && x.isTrue(3), true);
    Check.due("struck for good", x.isTrue(2), false);
    Check.due("the last of 80", Check.answerAfter(Play::fullBook, y -> y.isTrue(79)), true);
  }

  private static void text() {
    LedgerKiln x = Check.after(PageSentences::kinds);
    Check.due("it stands", x.text(0), 10);
    Check.due("altered, it stands", x.text(3), 13);
    LedgerKiln edges = Check.after(y -> { Play.page(y, 0, 1, 1, 0); Play.page(y, 0, 1, 1, 9999); });
    Check.due("the least", edges.text(0), 0);
    Check.due("the greatest", edges.text(1), 9999);
    Check.due("of a reversal", edges.text(edges.reverse(1)), 9999);
  }

  private static void noText() {
    LedgerKiln x = Check.after(PageSentences::kinds);
    Check.due("burnt", x.text(1), -1);
    Check.due("struck", x.text(2), -1);
    x.restore(0);
    Check.due("restored", x.text(1), 11);
    Check.due("struck for good", x.text(2), -1);
  }

  private static void mark() {
    LedgerKiln x = Check.after(PageSentences::kinds);
    for (int page = 0; page < 4; page++) {
      Check.due("page " + page, x.mark(page), Play.markOf(0, 10 + page, 0, 100 + page, 1, -100 - page));
    }
    Check.due("the last of 80",
        Check.answerAfter(Play::fullBook, y -> y.mark(79)), Play.markOf(0, 39, 0, -40, 1, 40));
  }

  private static void reversal() {
    LedgerKiln x = Check.after(y -> { Play.pages(y, 3); y.reverse(2); y.reverse(0); });
    Check.due("reversed last", x.reversal(0), 4);
    Check.due("reversed first", x.reversal(2), 3);
    x.burn(2, 3);
    Check.due("both burnt", x.reversal(2), 3);
    x.open();
    x.strike(0, 0);
    x.strike(0, 4);
    Check.due("both struck", x.reversal(0), 4);
    Check.due("the last of 80", Check.answerAfter(Play::fullBook, y -> y.reversal(78)), 79);
  }

  private static void noReversal() {
    LedgerKiln x = Check.after(y -> { Play.pages(y, 2); y.reverse(0); });
    Check.due("not reversed", x.reversal(1), -1);
    Check.due("a reversal", x.reversal(2), -1);
    LedgerKiln refused = Check.after(y -> { Play.pages(y, 1); y.burn(0, 0); });
    Check.answer(refused, y -> y.reverse(0));
    Check.due("refused", refused.reversal(0), -1);
    LedgerKiln hand = Check.after(y -> { Play.page(y, 0, 1, 5, 0); Play.page(y, 0, 1, -5, 0); });
    Check.due("a page just like a reversal", hand.reversal(0), -1);
  }

  private static void proves() {
    LedgerKiln x = Check.after(y -> {
      y.pass(3);
      Play.page(y, 0, 1, 30, 7);
      y.pass(1);
      Play.page(y, 0, 1, 30, 7);
      Play.legs(y, 0, 30, 1, -30);
    });
    Check.due("its text", x.proves(0, 7), true);
    Check.due("1 more", x.proves(0, 8), false);
    Check.due("1 less", x.proves(0, 6), false);
    Check.due("the same on another day", x.proves(1, 7), true);
    x.burn(0, 0);
    x.strike(x.open(), 1);
    Check.due("burnt", x.proves(0, 7), true);
    Check.due("struck", x.proves(1, 7), true);
    x.pass(9);
    Check.due("the day of the page, not of now", x.proves(0, 7), true);
    x.wipe();
    Play.legs(x, 1, -30, 0, 30);
    Check.due("the legs the other way round", x.proves(0, 7), false);
    x.wipe();
    Play.legs(x, 0, 31, 1, -31);
    Check.due("other amounts", x.proves(0, 7), false);
    x.wipe();
    Play.legs(x, 0, 30, 2, -30);
    Check.due("another account", x.proves(0, 7), false);
    x.wipe();
    x.leg(0, 30);
    Check.due("a leg less", x.proves(0, 7), false);
    x.leg(1, -30);
    Check.due("all legs", x.proves(0, 7), true);
    x.leg(2, 1);
    Check.due("a leg more", x.proves(0, 7), false);
    LedgerKiln altered = Check.after(y -> {
      Play.page(y, 0, 1, 30, 7);
      y.alter(0, 0, 31);
      Play.legs(y, 0, 30, 1, -30);
    });
    Check.due("altered, as it was written", altered.proves(0, 7), true);
    LedgerKiln four = Check.after(y -> {
      Play.legs(y, 7, 10000, 7, 10000, 0, -10000, 0, -10000);
      y.write(9999);
      Play.legs(y, 7, 10000, 7, 10000, 0, -10000, 0, -10000);
    });
    Check.due("four legs", four.proves(0, 9999), true);
  }

  private static void provesByMarkAlone() {
    Check.due("two pages of one mark", Play.markOf(0, 629, 0, 36, 1, -36), Play.markOf(0, 5, 0, 1, 1, -1));
    LedgerKiln x = Check.after(y -> { Play.page(y, 0, 1, 1, 5); Play.legs(y, 0, 36, 1, -36); });
    Check.due("another text and other amounts", x.proves(0, 629), true);
    Check.due("its text and other amounts", x.proves(0, 5), false);
    x.wipe();
    x.leg(0, -2491);
    Check.due("one leg alone", x.proves(0, 23), true);
    x.wipe();
    Play.legs(x, 0, 59, 1, 4664);
    Check.due("amounts that are not 0 together", x.proves(0, 5), true);
    LedgerKiln empty = Check.after(y -> Play.page(y, 0, 1, 90, 5));
    Check.due("an empty draft of that mark", Play.markOf(0, 8187), empty.mark(0));
    Check.due("no legs", empty.proves(0, 8187), true);
    Check.due("no legs, another text", empty.proves(0, 8188), false);
  }

  private static void provesTexts() {
    for (int text : new int[] {0, 9999}) {
      LedgerKiln x = Check.after(y -> { Play.page(y, 0, 1, 1, text); Play.legs(y, 0, 1, 1, -1); });
      Check.due("text " + text, x.proves(0, text), true);
      Check.due("the other edge", x.proves(0, 9999 - text), false);
    }
  }

  private static void provesChangesNothing() {
    LedgerKiln x = Check.after(y -> { Play.page(y, 0, 1, 1, 5); Play.legs(y, 0, 1, 1, -1); });
    Check.due("true", x.proves(0, 5), true);
    Check.due("true again", x.proves(0, 5), true);
    Check.due("false", x.proves(0, 6), false);
    Check.due("no page was written", x.pages(), 1);
    Check.due("the draft stays", x.wipe(), 2);
    Check.due("no legs, it would not", x.proves(0, 5), false);
  }

  private static void provesRefusesText() {
    Consumer<LedgerKiln> draft = x -> { kinds(x); Play.legs(x, 0, 100, 1, -100); };
    Edges.outOf("text", 0, 9999, draft, (x, text) -> x.proves(0, text));
    Edges.outOf("text, struck", 0, 9999, draft, (x, text) -> x.proves(2, text));
    Edges.outOf("text, an empty draft", 0, 9999, PageSentences::kinds, (x, text) -> x.proves(0, text));
  }

  private static void proven() {
    LedgerKiln x = Check.after(y -> {
      Play.legs(y, 0, 10000, 0, 10000, 7, -10000, 7, -10000);
      y.write(0);
      Play.legs(y, 3, 1, 4, 1, 3, -4, 5, 2);
      y.write(0);
      y.open();
      y.strike(0, 0);
      y.strike(0, 1);
    });
    int[][] due = {{20000, 0, 0, 0, 0, 0, 0, -20000}, {0, 0, 0, -3, 1, 2, 0, 0}};
    for (int page = 0; page < 2; page++) {
      for (int account = 0; account < 8; account++) {
        Check.due("page " + page + ", account " + account, x.proven(page, account), due[page][account]);
      }
    }
    LedgerKiln last = Check.after(y -> { Play.fullBook(y); y.strike(y.open(), 79); });
    Check.due("the last of 80", last.proven(79, 1), 40);
    Check.due("not the one ahead of it", last.proven(78, 1), 0);
  }

  private static void nothingProven() {
    LedgerKiln x = Check.after(PageSentences::kinds);
    Check.due("it stands", x.proven(0, 0), 0);
    Check.due("burnt", x.proven(1, 0), 0);
    Check.due("altered", x.proven(3, 0), 0);
    Check.due("struck", x.proven(2, 0), 102);
    x.alter(3, 0, 103);
    x.strike(0, 3);
    Check.due("struck now", x.proven(3, 0), 103);
  }

  private static void provenNeedsBoth() {
    Edges.noSuch("page, none there", 0, Play.nothing(), (x, page) -> x.proven(page, 0));
    Edges.noSuch("page", 4, PageSentences::kinds, (x, page) -> x.proven(page, 0));
    Edges.noSuch("page of 80", 80, Play::fullBook, (x, page) -> x.proven(page, 0));
    Edges.noSuch("account, struck", 8, PageSentences::kinds, (x, account) -> x.proven(2, account));
    Edges.noSuch("account, not struck", 8, PageSentences::kinds, (x, account) -> x.proven(0, account));
  }
}
