/**
 * An account book with its vault of copies and its court.
 *
 * <p>What was written on a page is kept for good on one sheet; what stands on the pages now is kept
 * on another one, and each copy has a sheet of its own. A page is true on a sheet if the sheet is
 * like the written one there.
 */
public final class LedgerKiln {
  private static final int LAST_DAY = 400;
  private static final int MOST_DAYS_AT_ONCE = 100;
  private static final int ACCOUNTS = 8;
  private static final int MOST_PAGES = 80;
  private static final int FEWEST_LEGS = 2;
  private static final int MOST_LEGS = 4;
  private static final int TOP_AMOUNT = 10000;
  private static final int TOP_TEXT = 9999;
  private static final int MOST_COPIES = 16;
  private static final int MOST_CASES = 8;
  private static final int MOST_HOLDS = 30;

  private static final int STANDING = 0;
  private static final int BURNT = 1;
  private static final int STRUCK = 2;

  private final Legs draft;
  private final Legs opposite;
  private final Book book;
  private final Vault vault;
  private final Court court;
  private int today;

  public LedgerKiln() {
    draft = new Legs();
    opposite = new Legs();
    book = new Book();
    vault = new Vault();
    court = new Court();
    today = 0;
  }

  // ---- the book

  public int leg(int account, int amount)
      throws IndexOutOfBoundsException, IllegalArgumentException, IllegalStateException {
    needAccount(account);
    needAmount(amount);
    if (amount == 0) {
      throw new IllegalArgumentException("the amount of a leg is not 0");
    }
    if (draft.isFull()) {
      throw new IllegalStateException("the draft has all its legs");
    }
    return draft.add(account, amount);
  }

  public int wipe() {
    return draft.clear();
  }

  public int write(int text) throws IllegalArgumentException, IllegalStateException {
    needText(text);
    if (!draft.isBalanced() || book.isFull()) {
      throw new IllegalStateException("the draft is no page, or the book is full");
    }
    int page = book.append(draft, text, today);
    draft.clear();
    return page;
  }

  public int reverse(int page) throws IndexOutOfBoundsException, IllegalStateException {
    needPage(page);
    if (!book.isReversible(page) || book.isFull()) {
      throw new IllegalStateException("the page is not to be reversed, or the book is full");
    }
    return book.appendReversal(page, opposite, today);
  }

  public int pass(int days) throws IllegalArgumentException, IllegalStateException {
    if (days < 1 || days > MOST_DAYS_AT_ONCE) {
      throw new IllegalArgumentException("1 to 100 days pass at once");
    }
    if (today + days > LAST_DAY) {
      throw new IllegalStateException("the last day is 400");
    }
    today += days;
    return today;
  }

  public int burn(int first, int last) throws IndexOutOfBoundsException, IllegalArgumentException {
    needPage(first);
    needPage(last);
    if (last < first) {
      throw new IllegalArgumentException("the last page is ahead of the first one");
    }
    int burning = 0;
    for (int page = first; page <= last; page++) {
      if (book.now.blank(page)) {
        burning++;
      }
    }
    return burning;
  }

  public int alter(int page, int leg, int amount)
      throws IndexOutOfBoundsException, IllegalArgumentException, IllegalStateException {
    needPage(page);
    if (leg < 0 || leg >= MOST_LEGS) {
      throw new IllegalArgumentException("a leg is 0 to 3");
    }
    needAmount(amount);
    if (!book.now.isFilled(page) || leg >= book.legCounts[page]) {
      throw new IllegalStateException("no such leg stands on the page");
    }
    return book.now.replace(page, leg, amount);
  }

  // ---- copies

  public int copy() throws IllegalStateException {
    needRoomForCopy();
    return vault.make(null, book);
  }

  public int copyFrom(int base) throws IndexOutOfBoundsException, IllegalStateException {
    Copy from = needCopy(base);
    needRoomForCopy();
    return vault.make(from, book);
  }

  public int carry(int copy, boolean inVault) throws IndexOutOfBoundsException {
    Copy carried = needCopy(copy);
    carried.inVault = inVault;
    return inVault ? carried.blankStruck(book) : 0;
  }

  public boolean rot(int copy, int page) throws IndexOutOfBoundsException {
    Copy rotting = needCopy(copy);
    needPageIn(rotting, page);
    return rotting.sheet.blank(page);
  }

  public int throwAway(int copy) throws IndexOutOfBoundsException, IllegalStateException {
    Copy thrown = needCopy(copy);
    if (vault.isBase(thrown) || court.holdsAnyIn(thrown, book)) {
      throw new IllegalStateException("the copy is a base, or an open case holds a page of it");
    }
    vault.remove(copy);
    return vault.countThere();
  }

  public int restore(int copy) throws IndexOutOfBoundsException, IllegalStateException {
    Copy last = needCopy(copy);
    if (!last.isChainInVault()) {
      throw new IllegalStateException("a copy of the chain lies outside");
    }
    int restored = 0;
    for (Copy link = last; link != null; link = link.base) {
      restored += link.giveBack(book);
    }
    return restored;
  }

  // ---- the court

  public int open() throws IllegalStateException {
    if (court.isFull()) {
      throw new IllegalStateException("8 cases were opened");
    }
    return court.openNext();
  }

  public int close(int lawsuit) throws IndexOutOfBoundsException, IllegalStateException {
    needCase(lawsuit);
    if (!court.running[lawsuit]) {
      throw new IllegalStateException("the case is closed");
    }
    int freed = court.countHeldAlone(lawsuit, book);
    court.running[lawsuit] = false;
    return freed;
  }

  public int hold(int lawsuit, int account, int from, int to)
      throws IndexOutOfBoundsException, IllegalArgumentException, IllegalStateException {
    needCase(lawsuit);
    needAccount(account);
    if (from < 0 || to < from || to > LAST_DAY) {
      throw new IllegalArgumentException("the days are 0 to 400, the first one first");
    }
    if (!court.running[lawsuit] || court.hasAllHolds()) {
      throw new IllegalStateException("the case is closed, or 30 holds were told");
    }
    court.addHold(lawsuit, account, from, to);
    return court.countHeld(lawsuit, book);
  }

  public int strike(int lawsuit, int page) throws IndexOutOfBoundsException, IllegalStateException {
    needCase(lawsuit);
    needPage(page);
    if (!court.maySentence(lawsuit, book, page)) {
      throw new IllegalStateException("the case can't strike the page");
    }
    book.markStruck(page);
    return vault.blankInVault(page);
  }

  // ---- pages as they are

  public int day() {
    return today;
  }

  public int pages() {
    return book.count;
  }

  public int state(int page) throws IndexOutOfBoundsException {
    needPage(page);
    return book.stateOf(page);
  }

  public boolean isTrue(int page) throws IndexOutOfBoundsException {
    needPage(page);
    return book.isTrueOn(book.now, page);
  }

  public int text(int page) throws IndexOutOfBoundsException {
    needPage(page);
    return book.now.isFilled(page) ? book.texts[page] : -1;
  }

  public int mark(int page) throws IndexOutOfBoundsException {
    needPage(page);
    return book.marks[page];
  }

  public int reversal(int page) throws IndexOutOfBoundsException {
    needPage(page);
    return book.reversals[page];
  }

  public boolean proves(int page, int text)
      throws IndexOutOfBoundsException, IllegalArgumentException {
    needPage(page);
    needText(text);
    return draft.markWith(book.days[page], text) == book.marks[page];
  }

  public int proven(int page, int account) throws IndexOutOfBoundsException {
    needPage(page);
    needAccount(account);
    return book.struck[page] ? book.sumOn(book.written, page, account) : 0;
  }

  // ---- balances

  public int balance(int account, int day)
      throws IndexOutOfBoundsException, IllegalArgumentException {
    needAccount(account);
    needPastDay(day);
    int sum = 0;
    int end = book.countUpTo(day);
    for (int page = 0; page < end; page++) {
      sum += book.sumOn(book.written, page, account);
    }
    return sum;
  }

  public int balanceByPages(int account, int day)
      throws IndexOutOfBoundsException, IllegalArgumentException, IllegalStateException {
    needAccount(account);
    needPastDay(day);
    int sum = 0;
    int end = book.countUpTo(day);
    for (int page = 0; page < end; page++) {
      int state = book.stateOf(page);
      if (state == BURNT) {
        throw new IllegalStateException("a page up to that day is burnt");
      }
      sum += book.sumOn(state == STRUCK ? book.written : book.now, page, account);
    }
    return sum;
  }

  public int balanceByCopies(int account, int day)
      throws IndexOutOfBoundsException, IllegalArgumentException, IllegalStateException {
    needAccount(account);
    needPastDay(day);
    int sum = 0;
    int end = book.countUpTo(day);
    for (int page = 0; page < end; page++) {
      if (!isToldTruly(page)) {
        throw new IllegalStateException("a page up to that day is found nowhere");
      }
      // Copies, proofs and book all tell a page as it was written where they tell it truly.
      sum += book.sumOn(book.written, page, account);
    }
    return sum;
  }

  private boolean isToldTruly(int page) {
    return vault.hasTrue(book, page, false) || book.struck[page] || book.isTrueOn(book.now, page);
  }

  // ---- copies as they are

  public int copies() {
    return vault.countThere();
  }

  public int size(int copy) throws IndexOutOfBoundsException {
    Copy asked = needCopy(copy);
    return asked.end - asked.first;
  }

  public boolean isInVault(int copy) throws IndexOutOfBoundsException {
    Copy asked = needCopy(copy);
    return asked.inVault;
  }

  public boolean stands(int copy, int page) throws IndexOutOfBoundsException {
    Copy asked = needCopy(copy);
    needPageIn(asked, page);
    return asked.sheet.isFilled(page);
  }

  public int copiesOf(int page) throws IndexOutOfBoundsException {
    needPage(page);
    return vault.countFilled(page);
  }

  public boolean canRestore(int copy) throws IndexOutOfBoundsException {
    Copy asked = needCopy(copy);
    return asked.isChainInVault();
  }

  public int gaps() {
    return book.countBurnt();
  }

  public int lost() {
    int lost = 0;
    for (int page = 0; page < book.count; page++) {
      if (book.stateOf(page) == BURNT && !vault.hasTrue(book, page, true)) {
        lost++;
      }
    }
    return lost;
  }

  public int audit(int copy) throws IndexOutOfBoundsException {
    Copy asked = needCopy(copy);
    int unlike = 0;
    for (int page = asked.first; page < asked.end; page++) {
      if (!asked.sheet.isLike(book.now, page)) {
        unlike++;
      }
    }
    return unlike;
  }

  // ---- the court

  public boolean isOpen(int lawsuit) throws IndexOutOfBoundsException {
    needCase(lawsuit);
    return court.running[lawsuit];
  }

  public int holders(int page) throws IndexOutOfBoundsException {
    needPage(page);
    return court.holdersOf(book, page);
  }

  public boolean canStrike(int lawsuit, int page) throws IndexOutOfBoundsException {
    needCase(lawsuit);
    needPage(page);
    return court.maySentence(lawsuit, book, page);
  }

  // ---- what a call needs

  private void needPage(int page) {
    if (page < 0 || page >= book.count) {
      throw new IndexOutOfBoundsException("no such page");
    }
  }

  private static void needAccount(int account) {
    if (account < 0 || account >= ACCOUNTS) {
      throw new IndexOutOfBoundsException("no such account");
    }
  }

  private void needCase(int lawsuit) {
    if (lawsuit < 0 || lawsuit >= court.opened) {
      throw new IndexOutOfBoundsException("no such case");
    }
  }

  private Copy needCopy(int copy) {
    Copy found = vault.find(copy);
    if (found == null) {
      throw new IndexOutOfBoundsException("no such copy");
    }
    return found;
  }

  private static void needPageIn(Copy copy, int page) {
    if (page < copy.first || page >= copy.end) {
      throw new IndexOutOfBoundsException("the copy does not have such a page");
    }
  }

  private static void needAmount(int amount) {
    if (amount < -TOP_AMOUNT || amount > TOP_AMOUNT) {
      throw new IllegalArgumentException("an amount is -10000 to 10000");
    }
  }

  private static void needText(int text) {
    if (text < 0 || text > TOP_TEXT) {
      throw new IllegalArgumentException("a text is 0 to 9999");
    }
  }

  private void needPastDay(int day) {
    if (day < 0 || day > today) {
      throw new IllegalArgumentException("a day is 0 to the day of now");
    }
  }

  private void needRoomForCopy() {
    if (vault.isFull() || book.countBurnt() > 0) {
      throw new IllegalStateException("16 copies were made, or a page is burnt");
    }
  }

  /** A row of legs that a page can be written from. */
  private static final class Legs {
    final int[] accounts = new int[MOST_LEGS];
    final int[] amounts = new int[MOST_LEGS];
    int count = 0;

    boolean isFull() {
      return count >= MOST_LEGS;
    }

    int add(int account, int amount) {
      accounts[count] = account;
      amounts[count] = amount;
      count++;
      return count;
    }

    int clear() {
      int had = count;
      count = 0;
      return had;
    }

    boolean isBalanced() {
      int sum = 0;
      for (int leg = 0; leg < count; leg++) {
        sum += amounts[leg];
      }
      return count >= FEWEST_LEGS && sum == 0;
    }

    int markWith(int day, int text) {
      int mark = nextMark(nextMark(1, day), text);
      for (int leg = 0; leg < count; leg++) {
        mark = nextMark(mark, accounts[leg]);
        mark = nextMark(mark, amounts[leg] + TOP_AMOUNT);
      }
      return mark;
    }

    private static int nextMark(int mark, int value) {
      return (131 * mark + 17 * value + 7) % 1000003;
    }
  }

  /** The amounts that stand on pages; the leg of a page that it does not have counts 0. */
  private static final class Sheet {
    private final boolean[] filled = new boolean[MOST_PAGES];
    private final int[] amounts = new int[MOST_PAGES * MOST_LEGS];

    boolean isFilled(int page) {
      return filled[page];
    }

    int amountOf(int page, int leg) {
      return amounts[page * MOST_LEGS + leg];
    }

    void fill(int page, Legs legs) {
      filled[page] = true;
      for (int leg = 0; leg < legs.count; leg++) {
        amounts[page * MOST_LEGS + leg] = legs.amounts[leg];
      }
    }

    int replace(int page, int leg, int amount) {
      int old = amounts[page * MOST_LEGS + leg];
      amounts[page * MOST_LEGS + leg] = amount;
      return old;
    }

    /** Takes what stands on a page of another sheet, or that nothing stands there. */
    void take(Sheet other, int page) {
      filled[page] = other.filled[page];
      for (int leg = 0; leg < MOST_LEGS; leg++) {
        amounts[page * MOST_LEGS + leg] = other.amounts[page * MOST_LEGS + leg];
      }
    }

    /** Leaves nothing on a page, and tells whether something stood there. */
    boolean blank(int page) {
      boolean stood = filled[page];
      filled[page] = false;
      for (int leg = 0; leg < MOST_LEGS; leg++) {
        amounts[page * MOST_LEGS + leg] = 0;
      }
      return stood;
    }

    boolean isLike(Sheet other, int page) {
      if (filled[page] != other.filled[page]) {
        return false;
      }
      for (int leg = 0; leg < MOST_LEGS; leg++) {
        if (amountOf(page, leg) != other.amountOf(page, leg)) {
          return false;
        }
      }
      return true;
    }
  }

  /** All pages: as they were written, and as they are in the book now. */
  private static final class Book {
    final int[] days = new int[MOST_PAGES];
    final int[] texts = new int[MOST_PAGES];
    final int[] marks = new int[MOST_PAGES];
    final int[] legCounts = new int[MOST_PAGES];
    final int[] accounts = new int[MOST_PAGES * MOST_LEGS];
    final int[] reversals = new int[MOST_PAGES];
    final boolean[] reversing = new boolean[MOST_PAGES];
    final boolean[] struck = new boolean[MOST_PAGES];
    final Sheet written = new Sheet();
    final Sheet now = new Sheet();
    int count = 0;

    boolean isFull() {
      return count >= MOST_PAGES;
    }

    int append(Legs legs, int text, int day) {
      int page = count;
      days[page] = day;
      texts[page] = text;
      marks[page] = legs.markWith(day, text);
      legCounts[page] = legs.count;
      for (int leg = 0; leg < legs.count; leg++) {
        accounts[page * MOST_LEGS + leg] = legs.accounts[leg];
      }
      reversals[page] = -1;
      written.fill(page, legs);
      now.fill(page, legs);
      count++;
      return page;
    }

    boolean isReversible(int page) {
      return isTrueOn(now, page) && reversals[page] < 0 && !reversing[page];
    }

    /** Writes the reversal of a page, with a row for its legs. */
    int appendReversal(int page, Legs row, int day) {
      row.clear();
      for (int leg = 0; leg < legCounts[page]; leg++) {
        row.add(accounts[page * MOST_LEGS + leg], -written.amountOf(page, leg));
      }
      int reversal = append(row, texts[page], day);
      reversing[reversal] = true;
      reversals[page] = reversal;
      return reversal;
    }

    void markStruck(int page) {
      struck[page] = true;
      now.blank(page);
    }

    int stateOf(int page) {
      if (struck[page]) {
        return STRUCK;
      }
      return now.isFilled(page) ? STANDING : BURNT;
    }

    boolean isTrueOn(Sheet sheet, int page) {
      return sheet.isLike(written, page);
    }

    boolean hasLegFor(int page, int account) {
      for (int leg = 0; leg < legCounts[page]; leg++) {
        if (accounts[page * MOST_LEGS + leg] == account) {
          return true;
        }
      }
      return false;
    }

    int sumOn(Sheet sheet, int page, int account) {
      int sum = 0;
      for (int leg = 0; leg < legCounts[page]; leg++) {
        if (accounts[page * MOST_LEGS + leg] == account) {
          sum += sheet.amountOf(page, leg);
        }
      }
      return sum;
    }

    /** How many pages were written up to a day: they are the first ones, as days only go by. */
    int countUpTo(int day) {
      int end = 0;
      while (end < count && days[end] <= day) {
        end++;
      }
      return end;
    }

    int countBurnt() {
      int burnt = 0;
      for (int page = 0; page < count; page++) {
        if (stateOf(page) == BURNT) {
          burnt++;
        }
      }
      return burnt;
    }
  }

  /** A copy, full or partial: it has the pages from the first one up to, but not with, the end. */
  private static final class Copy {
    final Sheet sheet = new Sheet();
    final Copy base;
    final int first;
    final int end;
    boolean inVault = true;

    Copy(Copy base, int first, int end) {
      this.base = base;
      this.first = first;
      this.end = end;
    }

    /** No copy of a chain is ever thrown away, as a base stays while a copy made from it is there. */
    boolean isChainInVault() {
      for (Copy link = this; link != null; link = link.base) {
        if (!link.inVault) {
          return false;
        }
      }
      return true;
    }

    int blankStruck(Book book) {
      int blanked = 0;
      for (int page = first; page < end; page++) {
        if (book.struck[page] && sheet.blank(page)) {
          blanked++;
        }
      }
      return blanked;
    }

    /** Gives the book its pages that are burnt or not true, as far as they are true here. */
    int giveBack(Book book) {
      int given = 0;
      for (int page = first; page < end; page++) {
        boolean wanted = !book.struck[page] && !book.isTrueOn(book.now, page);
        if (wanted && book.isTrueOn(sheet, page)) {
          book.now.take(sheet, page);
          given++;
        }
      }
      return given;
    }
  }

  /** All copies that there are, in the vault or outside, each at its number. */
  private static final class Vault {
    private final Copy[] copies = new Copy[MOST_COPIES];
    private int made = 0;

    boolean isFull() {
      return made >= MOST_COPIES;
    }

    /** The copy with a number, or null if there is none, or none any more. */
    Copy find(int number) {
      return number >= 0 && number < made ? copies[number] : null;
    }

    /** Makes a copy of the pages behind those that the base was made with, or of all. */
    int make(Copy base, Book book) {
      Copy copy = new Copy(base, base == null ? 0 : base.end, book.count);
      for (int page = copy.first; page < copy.end; page++) {
        copy.sheet.take(book.now, page);
      }
      copies[made] = copy;
      made++;
      return made - 1;
    }

    void remove(int number) {
      copies[number] = null;
    }

    int countThere() {
      int there = 0;
      for (int number = 0; number < made; number++) {
        if (copies[number] != null) {
          there++;
        }
      }
      return there;
    }

    boolean isBase(Copy base) {
      for (int number = 0; number < made; number++) {
        Copy copy = copies[number];
        if (copy != null && copy.base == base) {
          return true;
        }
      }
      return false;
    }

    int countFilled(int page) {
      int filled = 0;
      for (int number = 0; number < made; number++) {
        Copy copy = copies[number];
        if (copy != null && copy.sheet.isFilled(page)) {
          filled++;
        }
      }
      return filled;
    }

    /** Leaves nothing on a page in the vault; tells in how many copies outside something stands. */
    int blankInVault(int page) {
      for (int number = 0; number < made; number++) {
        Copy copy = copies[number];
        if (copy != null && copy.inVault) {
          copy.sheet.blank(page);
        }
      }
      return countFilled(page);
    }

    boolean hasTrue(Book book, int page, boolean outsideToo) {
      for (int number = 0; number < made; number++) {
        Copy copy = copies[number];
        if (copy != null && (copy.inVault || outsideToo) && book.isTrueOn(copy.sheet, page)) {
          return true;
        }
      }
      return false;
    }
  }

  /** The cases and their holds. */
  private static final class Court {
    final boolean[] running = new boolean[MOST_CASES];
    int opened = 0;
    private final int[] holdCases = new int[MOST_HOLDS];
    private final int[] holdAccounts = new int[MOST_HOLDS];
    private final int[] holdFroms = new int[MOST_HOLDS];
    private final int[] holdTos = new int[MOST_HOLDS];
    private int holds = 0;

    boolean isFull() {
      return opened >= MOST_CASES;
    }

    int openNext() {
      running[opened] = true;
      opened++;
      return opened - 1;
    }

    boolean hasAllHolds() {
      return holds >= MOST_HOLDS;
    }

    void addHold(int lawsuit, int account, int from, int to) {
      holdCases[holds] = lawsuit;
      holdAccounts[holds] = account;
      holdFroms[holds] = from;
      holdTos[holds] = to;
      holds++;
    }

    /** The open cases that hold a page, bit c for the case c; struck and burnt pages count too. */
    int holdersOf(Book book, int page) {
      int bits = 0;
      int day = book.days[page];
      for (int hold = 0; hold < holds; hold++) {
        boolean spans = holdFroms[hold] <= day && day <= holdTos[hold];
        if (running[holdCases[hold]] && spans && book.hasLegFor(page, holdAccounts[hold])) {
          bits |= 1 << holdCases[hold];
        }
      }
      return bits;
    }

    int countHeld(int lawsuit, Book book) {
      int held = 0;
      for (int page = 0; page < book.count; page++) {
        if ((holdersOf(book, page) & (1 << lawsuit)) != 0) {
          held++;
        }
      }
      return held;
    }

    int countHeldAlone(int lawsuit, Book book) {
      int held = 0;
      for (int page = 0; page < book.count; page++) {
        if (holdersOf(book, page) == (1 << lawsuit)) {
          held++;
        }
      }
      return held;
    }

    boolean holdsAnyIn(Copy copy, Book book) {
      for (int page = copy.first; page < copy.end; page++) {
        if (copy.sheet.isFilled(page) && holdersOf(book, page) != 0) {
          return true;
        }
      }
      return false;
    }

    boolean maySentence(int lawsuit, Book book, int page) {
      boolean heldByOther = (holdersOf(book, page) & ~(1 << lawsuit)) != 0;
      return running[lawsuit] && book.isTrueOn(book.now, page) && !heldByOther;
    }
  }
}
