import java.util.function.Consumer;

/** Promises 1 to 8: a new object, and the calls of the book. */
public final class BookTest {
  private BookTest() {}

  public static void main(String[] args) {
    promise1NewObject();
    promise2Leg();
    promise3Wipe();
    promise4Write();
    promise5Reverse();
    promise6Pass();
    promise7Burn();
    promise8Alter();
    Check.end("BookTest");
  }

  private static void promise1NewObject() {
    LedgerKiln x = new LedgerKiln();
    Check.due("new: pages", x.pages(), 0);
    Check.due("new: copies", x.copies(), 0);
    Check.due("new: day", x.day(), 0);
    Check.due("new: gaps", x.gaps(), 0);
    Check.due("new: lost", x.lost(), 0);
    Check.due("new: balance", x.balance(7, 0), 0);
    Check.due("new: draft", x.wipe(), 0);
    Check.refusesIndex("new: no page", Play.nothing(), y -> y.state(0));
    Check.refusesIndex("new: no copy", Play.nothing(), y -> y.size(0));
    Check.refusesIndex("new: no case", Play.nothing(), y -> y.isOpen(0));
    LedgerKiln other = new LedgerKiln();
    x.leg(0, 1);
    Check.due("another object has a draft of its own", other.wipe(), 0);
  }

  private static void promise2Leg() {
    LedgerKiln x = new LedgerKiln();
    Check.due("leg, first", x.leg(0, 10000), 1);
    Check.due("leg, second", x.leg(7, -10000), 2);
    Check.due("leg, same account", x.leg(7, 1), 3);
    Check.due("leg, fourth", x.leg(7, -1), 4);
    Check.due("legs in their order", x.write(5), 0);
    Check.due("legs: 0", x.balance(0, 0), 10000);
    Check.due("legs: 7", x.balance(7, 0), -10000);
    Check.due("leg, first of the next draft", x.leg(3, 2), 1);

    Consumer<LedgerKiln> one = y -> y.leg(0, 5);
    Consumer<LedgerKiln> four = y -> Play.times(4, () -> y.leg(2, 1));
    Check.refusesIndex("leg, account -1", one, y -> y.leg(-1, 1));
    Check.refusesIndex("leg, account 8", one, y -> y.leg(8, 1));
    Check.refusesIndex("leg, lowest account", one, y -> y.leg(Integer.MIN_VALUE, 1));
    Check.refusesArgument("leg, amount 0", one, y -> y.leg(0, 0));
    Check.refusesArgument("leg, amount 10001", one, y -> y.leg(0, 10001));
    Check.refusesArgument("leg, amount -10001", one, y -> y.leg(0, -10001));
    Check.refusesArgument("leg, lowest amount", one, y -> y.leg(0, Integer.MIN_VALUE));
    Check.refusesState("leg, fifth", four, y -> y.leg(0, 1));
    Check.refusesIndex("leg, account ahead of amount and state", four, y -> y.leg(8, 0));
    Check.refusesArgument("leg, amount ahead of state", four, y -> y.leg(0, 0));
  }

  private static void promise3Wipe() {
    LedgerKiln x = new LedgerKiln();
    Check.due("wipe, nothing", x.wipe(), 0);
    x.leg(0, 1);
    Check.due("wipe, one", x.wipe(), 1);
    Check.due("wipe, again", x.wipe(), 0);
    Play.times(4, () -> x.leg(0, 1));
    Check.due("wipe, four", x.wipe(), 4);
    Check.due("leg behind wipe", x.leg(1, 1), 1);
  }

  private static void promise4Write() {
    LedgerKiln x = new LedgerKiln();
    Check.due("write, first", Play.page(x, 0, 1, 5, 0), 0);
    Check.due("the draft is empty then", x.wipe(), 0);
    Check.due("write, second", Play.page(x, 2, 2, 10000, 9999), 1);
    x.leg(0, 3);
    x.leg(1, 4);
    x.leg(2, -12);
    x.leg(3, 5);
    Check.due("write, four legs", x.write(1), 2);
    Check.due("pages", x.pages(), 3);
    Check.due("write: text", x.text(1), 9999);
    Check.due("write: state", x.state(2), 0);
    Check.due("write: true", x.isTrue(2), true);
    Check.due("write: balance", x.balance(2, 0), -12);
    x.pass(2);
    Play.page(x, 0, 2, 7, 1);
    Check.due("write: its day", x.balance(0, 1), 8);
    Check.due("write: its day now", x.balance(0, 2), 15);
    // A shorter draft after a longer one: legs of the longer one are gone.
    x.copy();
    Check.due("write: no more legs than it has", Check.answer(x, y -> y.alter(3, 2, 0)), "IllegalStateException");

    Consumer<LedgerKiln> two = y -> { y.leg(0, 5); y.leg(1, -5); };
    Check.refusesArgument("write, text -1", two, y -> y.write(-1));
    Check.refusesArgument("write, text 10000", two, y -> y.write(10000));
    Check.refusesState("write, empty", Play.nothing(), y -> y.write(0));
    Check.refusesState("write, one leg", y -> y.leg(0, 5), y -> y.write(0));
    Check.refusesState("write, not 0 together", y -> { y.leg(0, 5); y.leg(1, -4); }, y -> y.write(0));
    Check.refusesState("write, below 0 together", y -> { y.leg(0, 5); y.leg(1, -6); }, y -> y.write(0));
    Check.refusesArgument("write, text ahead of state", Play.nothing(), y -> y.write(10000));
    Check.refusesState("write, 80 pages", y -> { Play.fullBook(y); two.accept(y); }, y -> y.write(0));
    LedgerKiln full = Check.after(y -> { Play.fullBook(y); y.leg(0, 1); });
    Check.due("80 pages", full.pages(), 80);
    Check.due("the last page is true", full.isTrue(79), true);
  }

  private static void promise5Reverse() {
    LedgerKiln x = new LedgerKiln();
    x.leg(3, 10);
    x.leg(4, -30);
    x.leg(3, 20);
    x.write(77);
    x.pass(9);
    x.leg(6, 1);
    Check.due("reverse", x.reverse(0), 1);
    Check.due("reverse: the draft stays", x.wipe(), 1);
    Check.due("reverse: told", x.reversal(0), 1);
    Check.due("reverse: the reversal has none", x.reversal(1), -1);
    Check.due("reverse: same text", x.text(1), 77);
    Check.due("reverse: its day", x.balance(3, 8), 30);
    Check.due("reverse: other sign", x.balance(3, 9), 0);
    x.leg(3, -10);
    x.leg(4, 30);
    x.leg(3, -20);
    Check.due("reverse: its mark", x.proves(1, 77), true);
    x.wipe();
    Check.due("reverse: three legs", x.alter(1, 2, 4), -20);
    Check.due("reverse: the draft stays as it was", Check.after(y -> {
      Play.pages(y, 1);
      y.leg(5, 9);
      y.reverse(0);
      y.leg(6, -9);
      y.write(3);
    }).balance(5, 0), 9);

    Consumer<LedgerKiln> two = y -> Play.pages(y, 2);
    Check.refusesIndex("reverse, page -1", two, y -> y.reverse(-1));
    Check.refusesIndex("reverse, page 2", two, y -> y.reverse(2));
    Check.refusesState("reverse, burnt", y -> { two.accept(y); y.burn(0, 0); }, y -> y.reverse(0));
    Check.refusesState("reverse, altered", y -> { two.accept(y); y.alter(0, 0, 9); }, y -> y.reverse(0));
    Check.refusesState("reverse, struck", y -> { two.accept(y); y.strike(y.open(), 0); }, y -> y.reverse(0));
    Check.refusesState("reverse, twice", y -> { two.accept(y); y.reverse(0); }, y -> y.reverse(0));
    Check.refusesState("reverse, a reversal", y -> { two.accept(y); y.reverse(0); }, y -> y.reverse(2));
    Check.refusesState("reverse, 80 pages", BookTest::fullBookWithOneToReverse, y -> y.reverse(79));
    LedgerKiln again = Check.after(y -> { two.accept(y); y.copy(); y.alter(0, 0, 9); y.restore(0); });
    Check.due("reverse, true again", again.reverse(0), 2);
    LedgerKiln struck = Check.after(y -> { two.accept(y); y.reverse(0); y.strike(y.open(), 2); });
    Check.due("a reversal that was struck stays one", struck.reversal(0), 2);
    Check.due("reverse, once at most", Check.answer(struck, y -> y.reverse(0)), "IllegalStateException");
  }

  private static void fullBookWithOneToReverse(LedgerKiln x) {
    for (int i = 0; i < 39; i++) {
      x.reverse(Play.page(x, 0, 1, i + 1, i));
    }
    Play.pages(x, 2);
  }

  private static void promise6Pass() {
    LedgerKiln x = new LedgerKiln();
    Check.due("pass 1", x.pass(1), 1);
    Check.due("pass 100", x.pass(100), 101);
    Check.due("pass: day", x.day(), 101);
    x.pass(100);
    x.pass(100);
    Check.due("pass to 400", x.pass(99), 400);
    Check.due("pages on day 400", Play.page(x, 0, 1, 5, 5), 0);
    Check.due("balance on day 400", x.balance(0, 400), 5);

    Consumer<LedgerKiln> late = y -> { Play.times(3, () -> y.pass(100)); y.pass(50); };
    Check.refusesArgument("pass 0", late, y -> y.pass(0));
    Check.refusesArgument("pass -1", late, y -> y.pass(-1));
    Check.refusesArgument("pass 101", late, y -> y.pass(101));
    Check.refusesArgument("pass the most", late, y -> y.pass(Integer.MAX_VALUE));
    Check.refusesState("pass to 401", late, y -> y.pass(51));
  }

  private static void promise7Burn() {
    LedgerKiln x = Check.after(y -> Play.pages(y, 5));
    Check.due("burn one", x.burn(1, 1), 1);
    Check.due("burn again", x.burn(1, 1), 0);
    Check.due("burn as far as they stand", x.burn(0, 2), 2);
    Check.due("burn: burnt", x.state(2), 1);
    Check.due("burn: the next stands", x.state(3), 0);
    x.alter(3, 0, 1);
    x.strike(x.open(), 4);
    Check.due("burn altered and struck", x.burn(3, 4), 1);
    Check.due("burn: struck stays struck", x.state(4), 2);
    Check.due("burn: not true", x.isTrue(0), false);

    Consumer<LedgerKiln> three = y -> Play.pages(y, 3);
    Check.refusesIndex("burn, first -1", three, y -> y.burn(-1, 0));
    Check.refusesIndex("burn, last 3", three, y -> y.burn(0, 3));
    Check.refusesIndex("burn, first 3", three, y -> y.burn(3, 2));
    Check.refusesIndex("burn, last -1", three, y -> y.burn(0, -1));
    Check.refusesArgument("burn, last ahead of first", three, y -> y.burn(2, 1));
  }

  private static void promise8Alter() {
    LedgerKiln x = new LedgerKiln();
    x.leg(0, 10);
    x.leg(1, -30);
    x.leg(2, 15);
    x.leg(3, 5);
    x.write(1);
    Check.due("alter", x.alter(0, 3, 6), 5);
    Check.due("alter: not true", x.isTrue(0), false);
    Check.due("alter: stands", x.state(0), 0);
    Check.due("alter again", x.alter(0, 3, 0), 6);
    Check.due("alter to the lowest", x.alter(0, 3, -10000), 0);
    Check.due("alter to the highest", x.alter(0, 3, 10000), -10000);
    Check.due("alter back", x.alter(0, 3, 5), 10000);
    Check.due("alter: true again", x.isTrue(0), true);
    Check.due("alter to the same", x.alter(0, 0, 10), 10);
    Check.due("alter to the same: true", x.isTrue(0), true);
    x.alter(0, 1, 0);
    Check.due("alter: as written", x.balance(1, 0), -30);
    Check.due("alter: as it stands", x.balanceByPages(1, 0), 0);

    Consumer<LedgerKiln> two = y -> Play.pages(y, 2);
    Consumer<LedgerKiln> burnt = y -> { two.accept(y); y.burn(0, 0); };
    Consumer<LedgerKiln> struck = y -> { two.accept(y); y.strike(y.open(), 0); };
    Check.refusesIndex("alter, page -1", two, y -> y.alter(-1, 0, 0));
    Check.refusesIndex("alter, page 2", two, y -> y.alter(2, 0, 0));
    Check.refusesArgument("alter, leg -1", two, y -> y.alter(0, -1, 0));
    Check.refusesArgument("alter, leg 4", two, y -> y.alter(0, 4, 0));
    Check.refusesArgument("alter, amount 10001", two, y -> y.alter(0, 0, 10001));
    Check.refusesArgument("alter, amount -10001", two, y -> y.alter(0, 0, -10001));
    Check.refusesState("alter, not so many legs", two, y -> y.alter(0, 2, 0));
    Check.refusesState("alter, burnt", burnt, y -> y.alter(0, 0, 0));
    Check.refusesState("alter, struck", struck, y -> y.alter(0, 0, 0));
    Check.refusesIndex("alter, page ahead of leg", two, y -> y.alter(2, 4, 0));
    Check.refusesArgument("alter, leg ahead of state", burnt, y -> y.alter(0, 4, 0));
    Check.refusesArgument("alter, amount ahead of state", two, y -> y.alter(0, 2, 10001));
  }
}
