import java.util.Map;
import java.util.TreeMap;
import java.util.function.Function;

/**
 * Long runs of calls, 512 each, on a LedgerKiln and a PlainLedger side by side: every answer and
 * every exception is to be the same. The calls are drawn from numbers that are the same each time.
 */
public final class ModelTest {
  private static final int RUNS = 1000;
  private static final int CALLS = 512;

  /** What every call is to come to at least once, so that the runs are known to go deep. */
  private static final String[] SEEN = {
    "leg IndexOutOfBoundsException", "leg IllegalArgumentException", "leg IllegalStateException",
    "write IllegalArgumentException", "write IllegalStateException",
    "reverse IndexOutOfBoundsException", "reverse IllegalStateException", "reverse 79",
    "pass IllegalArgumentException", "pass IllegalStateException", "pass 400",
    "burn IndexOutOfBoundsException", "burn IllegalArgumentException", "burn 3",
    "alter IndexOutOfBoundsException", "alter IllegalArgumentException", "alter IllegalStateException",
    "copy IllegalStateException", "copy 15",
    "copyFrom IndexOutOfBoundsException", "copyFrom IllegalStateException", "copyFrom 15",
    "carry IndexOutOfBoundsException", "carry 2",
    "rot IndexOutOfBoundsException", "rot true", "rot false",
    "throwAway IndexOutOfBoundsException", "throwAway IllegalStateException", "throwAway 3",
    "restore IndexOutOfBoundsException", "restore IllegalStateException", "restore 4",
    "open IllegalStateException", "open 7",
    "close IndexOutOfBoundsException", "close IllegalStateException", "close 5",
    "hold IndexOutOfBoundsException", "hold IllegalArgumentException", "hold IllegalStateException", "hold 9",
    "strike IndexOutOfBoundsException", "strike IllegalStateException", "strike 3",
    "state IndexOutOfBoundsException", "state 0", "state 1", "state 2",
    "isTrue IndexOutOfBoundsException", "isTrue true", "isTrue false",
    "text IndexOutOfBoundsException", "text -1",
    "mark IndexOutOfBoundsException",
    "reversal IndexOutOfBoundsException", "reversal -1", "reversal 40",
    "proves IndexOutOfBoundsException", "proves IllegalArgumentException", "proves true", "proves false",
    "proven IndexOutOfBoundsException", "proven 0", "proven 100",
    "balance IndexOutOfBoundsException", "balance IllegalArgumentException",
    "balanceByPages IndexOutOfBoundsException", "balanceByPages IllegalArgumentException",
    "balanceByPages IllegalStateException",
    "balanceByCopies IndexOutOfBoundsException", "balanceByCopies IllegalArgumentException",
    "balanceByCopies IllegalStateException",
    "copies 5", "size IndexOutOfBoundsException", "size 0", "size 20",
    "isInVault IndexOutOfBoundsException", "isInVault true", "isInVault false",
    "stands IndexOutOfBoundsException", "stands true", "stands false",
    "copiesOf IndexOutOfBoundsException", "copiesOf 4",
    "canRestore IndexOutOfBoundsException", "canRestore true", "canRestore false",
    "gaps 5", "lost 3", "audit IndexOutOfBoundsException", "audit 4",
    "isOpen IndexOutOfBoundsException", "isOpen true", "isOpen false",
    "holders IndexOutOfBoundsException", "holders 5",
    "canStrike IndexOutOfBoundsException", "canStrike true", "canStrike false",
  };

  private final Map<String, Integer> seen;
  private final int run;
  private final LedgerKiln kiln = new LedgerKiln();
  private final PlainLedger plain = new PlainLedger();
  private final StringBuilder history = new StringBuilder();
  private long seed;
  private int calls = 0;
  private boolean unlike = false;

  private ModelTest(int run, Map<String, Integer> seen) {
    this.run = run;
    this.seed = run;
    this.seen = seen;
  }

  public static void main(String[] args) {
    Map<String, Integer> seen = new TreeMap<>();
    for (int run = 1; run <= RUNS; run++) {
      new ModelTest(run, seen).play();
    }
    for (String outcome : SEEN) {
      Check.due("the runs came to " + outcome, seen.containsKey(outcome), true);
    }
    Check.end("ModelTest");
  }

  private int draw(int bound) {
    seed = seed * 6364136223846793005L + 1442695040888963407L;
    return (int) ((seed >>> 33) % bound);
  }

  private boolean chance(int percent) {
    return draw(100) < percent;
  }

  /** A number from 0 on below the end; now and then one that is just not. */
  private int number(int end) {
    if (chance(4)) {
      return chance(50) ? -1 : end;
    }
    return end == 0 ? 0 : draw(end);
  }

  private int page() {
    return number(plain.pages());
  }

  private int copyNumber() {
    return number(Math.min(16, 1 + 2 * plain.copies()));
  }

  private int account() {
    return number(8);
  }

  private int pastDay() {
    return chance(50) ? plain.day() : number(plain.day() + 1);
  }

  private int amount() {
    if (chance(5)) {
      return new int[] {0, 10000, -10000, 10001, -10001}[draw(5)];
    }
    return (draw(5) - 2) * 50;
  }

  private int text() {
    return chance(4) ? new int[] {-1, 10000, 9999}[draw(3)] : draw(2);
  }

  private void both(
      String name, String arguments, Function<LedgerKiln, Object> real, Function<PlainLedger, Object> model) {
    if (calls == CALLS || unlike) {
      return;
    }
    calls++;
    Object got = Check.answer(kiln, real);
    Object due;
    try {
      due = model.apply(plain);
    } catch (IndexOutOfBoundsException | IllegalArgumentException | IllegalStateException e) {
      due = e.getClass().getSimpleName();
    }
    seen.merge(name + " " + due, 1, Integer::sum);
    history.append(name).append(arguments).append(" -> ").append(due).append('\n');
    Check.due("run " + run + " call " + calls + " " + name + arguments, got, due);
    if (!got.equals(due)) {
      unlike = true;
      System.out.println(history);
    }
  }

  /** Each run has its own leaning; every tenth one is to fill the book. */
  private void play() {
    int harm = draw(12);
    int copying = draw(14);
    int court = draw(14);
    int writing = run % 10 == 0 ? 300 : 5 + draw(40);
    int asking = 5 + draw(40);
    while (calls < CALLS && !unlike) {
      int kind = draw(writing + harm + copying + court + asking);
      if (kind < writing) {
        write();
      } else if (kind < writing + harm) {
        harm();
      } else if (kind < writing + harm + copying) {
        copying();
      } else if (kind < writing + harm + copying + court) {
        judge();
      } else {
        askOne();
      }
    }
  }

  private void leg(int account, int amount) {
    both("leg", "(" + account + ", " + amount + ")", x -> x.leg(account, amount), x -> x.leg(account, amount));
  }

  private void write(int text) {
    both("write", "(" + text + ")", x -> x.write(text), x -> x.write(text));
  }

  private void write() {
    switch (draw(11)) {
      case 0 -> leg(account(), amount());
      case 1 -> write(text());
      case 2 -> both("wipe", "()", x -> x.wipe(), x -> x.wipe());
      case 3 -> {
        int days = chance(3) ? new int[] {0, 101, 100, -5}[draw(4)] : 1 + draw(chance(10) ? 90 : 9);
        both("pass", "(" + days + ")", x -> x.pass(days), x -> x.pass(days));
        if (plain.day() > 300) {
          int rest = 400 - plain.day();
          both("pass", "(" + rest + ")", x -> x.pass(rest), x -> x.pass(rest));
        }
      }
      case 4, 5 -> {
        int page = page();
        both("reverse", "(" + page + ")", x -> x.reverse(page), x -> x.reverse(page));
      }
      default -> writeBalanced();
    }
  }

  private void writeBalanced() {
    int amount = 50 * (1 + draw(2));
    leg(draw(8), amount);
    if (chance(20)) {
      leg(draw(8), amount);
      leg(draw(8), -amount);
    }
    leg(draw(8), -amount);
    write(draw(2));
  }

  private void harm() {
    int page = page();
    if (chance(40)) {
      int last = chance(90) ? Math.min(page + draw(4), Math.max(plain.pages() - 1, 0)) : page();
      both("burn", "(" + page + ", " + last + ")", x -> x.burn(page, last), x -> x.burn(page, last));
    } else if (chance(60)) {
      int leg = chance(90) ? draw(2) : draw(6) - 1;
      int amount = amount();
      both("alter", "(" + page + ", " + leg + ", " + amount + ")",
          x -> x.alter(page, leg, amount), x -> x.alter(page, leg, amount));
    } else {
      int copy = copyNumber();
      both("rot", "(" + copy + ", " + page + ")", x -> x.rot(copy, page), x -> x.rot(copy, page));
    }
  }

  private void copying() {
    int copy = copyNumber();
    switch (draw(8)) {
      case 0, 1 -> both("copy", "()", x -> x.copy(), x -> x.copy());
      case 2 -> both("copyFrom", "(" + copy + ")", x -> x.copyFrom(copy), x -> x.copyFrom(copy));
      case 3, 4 -> {
        boolean inVault = chance(50);
        both("carry", "(" + copy + ", " + inVault + ")", x -> x.carry(copy, inVault), x -> x.carry(copy, inVault));
      }
      case 5 -> {
        if (chance(30)) {
          both("throwAway", "(" + copy + ")", x -> x.throwAway(copy), x -> x.throwAway(copy));
        }
      }
      default -> both("restore", "(" + copy + ")", x -> x.restore(copy), x -> x.restore(copy));
    }
  }

  private int lawsuit() {
    int opened = 0;
    while (opened < 8 && hasCase(opened)) {
      opened++;
    }
    return number(opened);
  }

  private boolean hasCase(int lawsuit) {
    try {
      plain.isOpen(lawsuit);
      return true;
    } catch (IndexOutOfBoundsException e) {
      return false;
    }
  }

  private void judge() {
    int lawsuit = lawsuit();
    int page = page();
    int account = account();
    switch (draw(9)) {
      case 0 -> both("open", "()", x -> x.open(), x -> x.open());
      case 1 -> {
        if (chance(40)) {
          both("close", "(" + lawsuit + ")", x -> x.close(lawsuit), x -> x.close(lawsuit));
        }
      }
      case 2, 3, 4 -> {
        int from = chance(5) ? draw(403) - 1 : draw(plain.day() + 10);
        int to = chance(5) ? draw(403) : from + draw(20);
        both("hold", "(" + lawsuit + ", " + account + ", " + from + ", " + to + ")",
            x -> x.hold(lawsuit, account, from, to), x -> x.hold(lawsuit, account, from, to));
      }
      default -> both("strike", "(" + lawsuit + ", " + page + ")", x -> x.strike(lawsuit, page), x -> x.strike(lawsuit, page));
    }
  }

  private void askOne() {
    int kind = draw(24);
    if (kind < 9) {
      askPage(kind);
    } else if (kind < 12) {
      askBalance(kind);
    } else {
      askCopyOrCase(kind);
    }
  }

  private void askPage(int kind) {
    int page = page();
    int text = text();
    int account = account();
    String one = "(" + page + ")";
    switch (kind) {
      case 0 -> both("day", "()", x -> x.day(), x -> x.day());
      case 1 -> both("pages", "()", x -> x.pages(), x -> x.pages());
      case 2 -> both("state", one, x -> x.state(page), x -> x.state(page));
      case 3 -> both("isTrue", one, x -> x.isTrue(page), x -> x.isTrue(page));
      case 4 -> both("text", one, x -> x.text(page), x -> x.text(page));
      case 5 -> both("mark", one, x -> x.mark(page), x -> x.mark(page));
      case 6 -> both("reversal", one, x -> x.reversal(page), x -> x.reversal(page));
      case 7 -> {
        if (page >= 0 && page < plain.pages() && chance(30)) {
          proveAgain();
        } else {
          both("proves", "(" + page + ", " + text + ")", x -> x.proves(page, text), x -> x.proves(page, text));
        }
      }
      default -> both("proven", "(" + page + ", " + account + ")", x -> x.proven(page, account), x -> x.proven(page, account));
    }
  }

  /** Brings two legs like those that pages have into the draft, and asks all texts that they have. */
  private void proveAgain() {
    int amount = 50 * (1 + draw(2));
    both("wipe", "()", x -> x.wipe(), x -> x.wipe());
    leg(draw(8), amount);
    leg(draw(8), -amount);
    for (int other = 0; other < plain.pages() && other < 40; other++) {
      int asked = other;
      both("proves", "(" + asked + ", 1)", x -> x.proves(asked, 1), x -> x.proves(asked, 1));
    }
  }

  private void askBalance(int kind) {
    int account = account();
    int day = pastDay();
    String two = "(" + account + ", " + day + ")";
    switch (kind) {
      case 9 -> both("balance", two, x -> x.balance(account, day), x -> x.balance(account, day));
      case 10 -> both("balanceByPages", two, x -> x.balanceByPages(account, day), x -> x.balanceByPages(account, day));
      default -> both("balanceByCopies", two, x -> x.balanceByCopies(account, day), x -> x.balanceByCopies(account, day));
    }
  }

  private void askCopyOrCase(int kind) {
    int copy = copyNumber();
    int page = page();
    int lawsuit = lawsuit();
    String one = "(" + copy + ")";
    switch (kind) {
      case 12 -> both("copies", "()", x -> x.copies(), x -> x.copies());
      case 13 -> both("size", one, x -> x.size(copy), x -> x.size(copy));
      case 14 -> both("isInVault", one, x -> x.isInVault(copy), x -> x.isInVault(copy));
      case 15 -> both("stands", "(" + copy + ", " + page + ")", x -> x.stands(copy, page), x -> x.stands(copy, page));
      case 16 -> both("copiesOf", "(" + page + ")", x -> x.copiesOf(page), x -> x.copiesOf(page));
      case 17 -> both("canRestore", one, x -> x.canRestore(copy), x -> x.canRestore(copy));
      case 18 -> both("gaps", "()", x -> x.gaps(), x -> x.gaps());
      case 19 -> both("lost", "()", x -> x.lost(), x -> x.lost());
      case 20 -> both("audit", one, x -> x.audit(copy), x -> x.audit(copy));
      case 21 -> both("isOpen", "(" + lawsuit + ")", x -> x.isOpen(lawsuit), x -> x.isOpen(lawsuit));
      case 22 -> both("holders", "(" + page + ")", x -> x.holders(page), x -> x.holders(page));
      default -> both("canStrike", "(" + lawsuit + ", " + page + ")",
          x -> x.canStrike(lawsuit, page), x -> x.canStrike(lawsuit, page));
    }
  }
}
