import java.util.ArrayList;
import java.util.Arrays;
import java.util.HashMap;
import java.util.List;
import java.util.Map;
import java.util.TreeMap;

/**
 * The document once more, in another form than LedgerKiln and with the Java library: what stands
 * somewhere is a row of numbers (day, text, accounts and amounts in turn) or is not there at all.
 * It holds no care for wrong arguments but what the throws clauses name.
 */
final class PlainLedger {
  private final List<int[]> draft = new ArrayList<>();
  private final List<int[]> written = new ArrayList<>();
  private final Map<Integer, int[]> book = new HashMap<>();
  private final Map<Integer, int[]> proofs = new HashMap<>();
  private final Map<Integer, Integer> reversals = new HashMap<>();
  private final TreeMap<Integer, Holding> copies = new TreeMap<>();
  private final List<Boolean> cases = new ArrayList<>();
  private final List<int[]> holds = new ArrayList<>();
  private final int[][] kept = new int[8][401];
  private int copiesMade = 0;
  private int today = 0;

  private static final class Holding {
    final List<Integer> pages = new ArrayList<>();
    final Map<Integer, int[]> rows = new HashMap<>();
    int base = -1;
    int pagesThen = 0;
    boolean outside = false;
  }

  private static void index(boolean ok) {
    if (!ok) throw new IndexOutOfBoundsException();
  }

  private static void argument(boolean ok) {
    if (!ok) throw new IllegalArgumentException();
  }

  private static void state(boolean ok) {
    if (!ok) throw new IllegalStateException();
  }

  private void hasPage(int page) {
    index(0 <= page && page < written.size());
  }

  private void hasAccount(int account) {
    index(0 <= account && account < 8);
  }

  private void hasCopy(int copy) {
    index(copies.containsKey(copy));
  }

  private void hasCase(int lawsuit) {
    index(0 <= lawsuit && lawsuit < cases.size());
  }

  private boolean truly(int page, int[] row) {
    return row != null && Arrays.equals(row, written.get(page));
  }

  private boolean burnt(int page) {
    return !book.containsKey(page) && !proofs.containsKey(page);
  }

  private static int sum(int[] row, int account) {
    int sum = 0;
    for (int i = 2; i < row.length; i += 2) {
      if (row[i] == account) sum += row[i + 1];
    }
    return sum;
  }

  private static int markOf(int[] row) {
    long m = 1;
    for (int i = 0; i < row.length; i++) {
      long v = i > 2 && i % 2 == 1 ? row[i] + 10000 : row[i];
      m = (131 * m + 17 * v + 7) % 1000003;
    }
    return (int) m;
  }

  private int[] rowOfDraft(int day, int text) {
    int[] row = new int[2 + 2 * draft.size()];
    row[0] = day;
    row[1] = text;
    for (int i = 0; i < draft.size(); i++) {
      row[2 + 2 * i] = draft.get(i)[0];
      row[3 + 2 * i] = draft.get(i)[1];
    }
    return row;
  }

  private int add(int[] row) {
    int page = written.size();
    written.add(row.clone());
    book.put(page, row.clone());
    for (int account = 0; account < 8; account++) {
      for (int day = row[0]; day <= 400; day++) {
        kept[account][day] += sum(row, account);
      }
    }
    return page;
  }

  private boolean holdsIt(int lawsuit, int page) {
    if (!cases.get(lawsuit)) return false;
    int[] row = written.get(page);
    for (int[] hold : holds) {
      if (hold[0] != lawsuit || row[0] < hold[2] || row[0] > hold[3]) continue;
      for (int i = 2; i < row.length; i += 2) {
        if (row[i] == hold[1]) return true;
      }
    }
    return false;
  }

  private boolean heldByAny(int page) {
    for (int lawsuit = 0; lawsuit < cases.size(); lawsuit++) {
      if (holdsIt(lawsuit, page)) return true;
    }
    return false;
  }

  int leg(int account, int amount) {
    hasAccount(account);
    argument(amount != 0 && -10000 <= amount && amount <= 10000);
    state(draft.size() < 4);
    draft.add(new int[] {account, amount});
    return draft.size();
  }

  int wipe() {
    int had = draft.size();
    draft.clear();
    return had;
  }

  int write(int text) {
    argument(0 <= text && text <= 9999);
    int sum = 0;
    for (int[] leg : draft) sum += leg[1];
    state(draft.size() >= 2 && sum == 0 && written.size() < 80);
    int page = add(rowOfDraft(today, text));
    draft.clear();
    return page;
  }

  int reverse(int page) {
    hasPage(page);
    state(truly(page, book.get(page)));
    state(!reversals.containsKey(page) && !reversals.containsValue(page));
    state(written.size() < 80);
    int[] row = written.get(page).clone();
    row[0] = today;
    for (int i = 3; i < row.length; i += 2) row[i] = -row[i];
    int reversal = add(row);
    reversals.put(page, reversal);
    return reversal;
  }

  int pass(int days) {
    argument(1 <= days && days <= 100);
    state(today + days <= 400);
    today += days;
    return today;
  }

  int burn(int first, int last) {
    hasPage(first);
    hasPage(last);
    argument(first <= last);
    int burning = 0;
    for (int page = first; page <= last; page++) {
      if (book.remove(page) != null) burning++;
    }
    return burning;
  }

  int alter(int page, int leg, int amount) {
    hasPage(page);
    argument(0 <= leg && leg <= 3 && -10000 <= amount && amount <= 10000);
    int[] row = book.get(page);
    state(row != null && 3 + 2 * leg < row.length);
    int old = row[3 + 2 * leg];
    row[3 + 2 * leg] = amount;
    return old;
  }

  private int make(int base, int first) {
    Holding copy = new Holding();
    copy.base = base;
    copy.pagesThen = written.size();
    for (int page = first; page < written.size(); page++) {
      copy.pages.add(page);
      if (book.containsKey(page)) copy.rows.put(page, book.get(page).clone());
    }
    copies.put(copiesMade, copy);
    return copiesMade++;
  }

  int copy() {
    state(copiesMade < 16 && gaps() == 0);
    return make(-1, 0);
  }

  int copyFrom(int base) {
    hasCopy(base);
    state(copiesMade < 16 && gaps() == 0);
    return make(base, copies.get(base).pagesThen);
  }

  int carry(int copy, boolean inVault) {
    hasCopy(copy);
    Holding carried = copies.get(copy);
    carried.outside = !inVault;
    int had = carried.rows.size();
    if (inVault) carried.rows.keySet().removeAll(proofs.keySet());
    return had - carried.rows.size();
  }

  boolean rot(int copy, int page) {
    hasCopy(copy);
    hasPage(page);
    index(copies.get(copy).pages.contains(page));
    return copies.get(copy).rows.remove(page) != null;
  }

  int throwAway(int copy) {
    hasCopy(copy);
    for (Holding other : copies.values()) state(other.base != copy);
    for (int page : copies.get(copy).rows.keySet()) state(!heldByAny(page));
    copies.remove(copy);
    return copies.size();
  }

  int restore(int copy) {
    hasCopy(copy);
    state(canRestore(copy));
    int restored = 0;
    for (int page = 0; page < written.size(); page++) {
      if (proofs.containsKey(page) || truly(page, book.get(page))) continue;
      for (int c = copy; c >= 0; c = copies.get(c).base) {
        int[] row = copies.get(c).rows.get(page);
        if (truly(page, row)) {
          book.put(page, row.clone());
          restored++;
          break;
        }
      }
    }
    return restored;
  }

  int open() {
    state(cases.size() < 8);
    cases.add(true);
    return cases.size() - 1;
  }

  int close(int lawsuit) {
    hasCase(lawsuit);
    state(cases.get(lawsuit));
    List<Integer> held = new ArrayList<>();
    for (int page = 0; page < written.size(); page++) {
      if (heldByAny(page)) held.add(page);
    }
    cases.set(lawsuit, false);
    held.removeIf(this::heldByAny);
    return held.size();
  }

  int hold(int lawsuit, int account, int from, int to) {
    hasCase(lawsuit);
    hasAccount(account);
    argument(0 <= from && from <= 400 && from <= to && to <= 400);
    state(cases.get(lawsuit) && holds.size() < 30);
    holds.add(new int[] {lawsuit, account, from, to});
    int held = 0;
    for (int page = 0; page < written.size(); page++) {
      if (holdsIt(lawsuit, page)) held++;
    }
    return held;
  }

  int strike(int lawsuit, int page) {
    hasCase(lawsuit);
    hasPage(page);
    state(canStrike(lawsuit, page));
    int[] sums = new int[8];
    for (int account = 0; account < 8; account++) sums[account] = sum(book.get(page), account);
    proofs.put(page, sums);
    book.remove(page);
    int outside = 0;
    for (Holding copy : copies.values()) {
      if (!copy.outside) copy.rows.remove(page);
      if (copy.rows.containsKey(page)) outside++;
    }
    return outside;
  }

  int day() {
    return today;
  }

  int pages() {
    return written.size();
  }

  int state(int page) {
    hasPage(page);
    return book.containsKey(page) ? 0 : proofs.containsKey(page) ? 2 : 1;
  }

  boolean isTrue(int page) {
    hasPage(page);
    return truly(page, book.get(page));
  }

  int text(int page) {
    hasPage(page);
    return book.containsKey(page) ? book.get(page)[1] : -1;
  }

  int mark(int page) {
    hasPage(page);
    return markOf(written.get(page));
  }

  int reversal(int page) {
    hasPage(page);
    return reversals.getOrDefault(page, -1);
  }

  boolean proves(int page, int text) {
    hasPage(page);
    argument(0 <= text && text <= 9999);
    return markOf(rowOfDraft(written.get(page)[0], text)) == mark(page);
  }

  int proven(int page, int account) {
    hasPage(page);
    hasAccount(account);
    return proofs.containsKey(page) ? proofs.get(page)[account] : 0;
  }

  int balance(int account, int day) {
    hasAccount(account);
    argument(0 <= day && day <= today);
    return kept[account][day];
  }

  int balanceByPages(int account, int day) {
    hasAccount(account);
    argument(0 <= day && day <= today);
    int sum = 0;
    for (int page = 0; page < written.size(); page++) {
      if (written.get(page)[0] > day) continue;
      state(!burnt(page));
      sum += proofs.containsKey(page) ? proofs.get(page)[account] : sum(book.get(page), account);
    }
    return sum;
  }

  int balanceByCopies(int account, int day) {
    hasAccount(account);
    argument(0 <= day && day <= today);
    int sum = 0;
    for (int page = 0; page < written.size(); page++) {
      if (written.get(page)[0] <= day) sum += sumFromOldest(page, account);
    }
    return sum;
  }

  private int sumFromOldest(int page, int account) {
    for (Holding copy : copies.values()) {
      if (!copy.outside && truly(page, copy.rows.get(page))) {
        return sum(copy.rows.get(page), account);
      }
    }
    if (proofs.containsKey(page)) return proofs.get(page)[account];
    state(truly(page, book.get(page)));
    return sum(book.get(page), account);
  }

  int copies() {
    return copies.size();
  }

  int size(int copy) {
    hasCopy(copy);
    return copies.get(copy).pages.size();
  }

  boolean isInVault(int copy) {
    hasCopy(copy);
    return !copies.get(copy).outside;
  }

  boolean stands(int copy, int page) {
    hasCopy(copy);
    hasPage(page);
    index(copies.get(copy).pages.contains(page));
    return copies.get(copy).rows.containsKey(page);
  }

  int copiesOf(int page) {
    hasPage(page);
    int count = 0;
    for (Holding copy : copies.values()) {
      if (copy.rows.containsKey(page)) count++;
    }
    return count;
  }

  boolean canRestore(int copy) {
    hasCopy(copy);
    for (int c = copy; c >= 0; c = copies.get(c).base) {
      if (!copies.containsKey(c) || copies.get(c).outside) return false;
    }
    return true;
  }

  int gaps() {
    int gaps = 0;
    for (int page = 0; page < written.size(); page++) {
      if (burnt(page)) gaps++;
    }
    return gaps;
  }

  int lost() {
    int lost = 0;
    for (int page = 0; page < written.size(); page++) {
      boolean found = !burnt(page);
      for (Holding copy : copies.values()) found |= truly(page, copy.rows.get(page));
      if (!found) lost++;
    }
    return lost;
  }

  int audit(int copy) {
    hasCopy(copy);
    int unlike = 0;
    for (int page : copies.get(copy).pages) {
      if (!Arrays.equals(copies.get(copy).rows.get(page), book.get(page))) unlike++;
    }
    return unlike;
  }

  boolean isOpen(int lawsuit) {
    hasCase(lawsuit);
    return cases.get(lawsuit);
  }

  int holders(int page) {
    hasPage(page);
    int bits = 0;
    for (int lawsuit = 0; lawsuit < cases.size(); lawsuit++) {
      if (holdsIt(lawsuit, page)) bits += 1 << lawsuit;
    }
    return bits;
  }

  boolean canStrike(int lawsuit, int page) {
    hasCase(lawsuit);
    hasPage(page);
    if (!cases.get(lawsuit) || !truly(page, book.get(page))) return false;
    for (int other = 0; other < cases.size(); other++) {
      if (other != lawsuit && holdsIt(other, page)) return false;
    }
    return true;
  }
}
