import java.util.ArrayList;
import java.util.List;
import java.util.NoSuchElementException;
import java.util.TreeSet;
import java.util.regex.Matcher;
import java.util.regex.Pattern;

/**
 * The document once more, written another way (objects, sets, lists, whole copies, trying out), so
 * that random runs can compare the class with it. It throws what is due and counts nothing.
 */
final class Model {
  static final class Deed {
    int grantor;
    int grantee;
    int day;
  }

  static final class Parcel {
    int number;
    int area;
    int first;
    int last = -1;
    int root;
    TreeSet<Integer> neighbours = new TreeSet<>();
    TreeSet<Integer> parents = new TreeSet<>();
    List<Deed> chain = new ArrayList<>();

    Parcel copy() {
      Parcel twin = new Parcel();
      twin.number = number;
      twin.area = area;
      twin.first = first;
      twin.last = last;
      twin.root = root;
      twin.neighbours.addAll(neighbours);
      twin.parents.addAll(parents);
      // Deeds never change, so the copies may share them.
      twin.chain.addAll(chain);
      return twin;
    }

    int holderOf(int day) {
      int holder = root;
      for (Deed deed : chain) {
        if (deed.day <= day && deed.grantor == holder) {
          holder = deed.grantee;
        }
      }
      return holder;
    }

    List<Boolean> good() {
      List<Boolean> good = new ArrayList<>();
      int holder = root;
      for (Deed deed : chain) {
        good.add(deed.grantor == holder);
        holder = deed.grantor == holder ? deed.grantee : holder;
      }
      return good;
    }

    int gaps() {
      int gaps = 0;
      for (boolean is : good()) {
        gaps += is ? 0 : 1;
      }
      return gaps;
    }
  }

  static final class Easement {
    int kind;
    int on;
    int serves;
    int first;
    int last = -1;

    Easement copy() {
      Easement twin = new Easement();
      twin.kind = kind;
      twin.on = on;
      twin.serves = serves;
      twin.first = first;
      twin.last = last;
      return twin;
    }
  }

  static final class Lien {
    int creditor;
    int amount;
    TreeSet<Integer> on = new TreeSet<>();

    Lien copy() {
      Lien twin = new Lien();
      twin.creditor = creditor;
      twin.amount = amount;
      twin.on.addAll(on);
      return twin;
    }
  }

  static final class State {
    int day = 0;
    List<Parcel> parcels = new ArrayList<>();
    List<Easement> easements = new ArrayList<>();
    List<Lien> liens = new ArrayList<>();
    List<Integer> ranking = new ArrayList<>();

    State copy() {
      State twin = new State();
      twin.day = day;
      for (Parcel p : parcels) {
        twin.parcels.add(p.copy());
      }
      for (Easement e : easements) {
        twin.easements.add(e.copy());
      }
      for (Lien l : liens) {
        twin.liens.add(l.copy());
      }
      twin.ranking.addAll(ranking);
      return twin;
    }

    int deeds() {
      int sum = 0;
      for (Parcel p : parcels) {
        sum += p.chain.size();
      }
      return sum;
    }
  }

  private static final Pattern TEXT = Pattern.compile(
      "((split|merge|way)( [0-9]{1,4}){2};|(deed|lien)( [0-9]{1,4}){3};|days [0-9]{1,4};)+");

  State now = new State();
  State saved = null;
  List<State> history = new ArrayList<>();
  String input = "";
  int reason = 0;
  int position = -1;

  // ---- shared

  private Parcel at(int number) {
    index(number >= 0 && number < now.parcels.size());
    return now.parcels.get(number);
  }

  private static void index(boolean is) {
    if (!is) {
      throw new IndexOutOfBoundsException();
    }
  }

  private static void argument(boolean is) {
    if (!is) {
      throw new IllegalArgumentException();
    }
  }

  private static void state(boolean is) {
    if (!is) {
      throw new IllegalStateException();
    }
  }

  private static void answer(boolean is) {
    if (!is) {
      throw new NoSuchElementException();
    }
  }

  private void refuse(boolean is, int why) {
    if (is) {
      reason = why;
      throw new UnsupportedOperationException();
    }
  }

  private static boolean person(int number) {
    return 0 <= number && number <= 9;
  }

  private void change() {
    history.add(now.copy());
    if (history.size() > 6) {
      history.remove(0);
    }
  }

  private static int set(Iterable<Integer> numbers) {
    int set = 0;
    for (int number : numbers) {
      set |= 1 << number;
    }
    return set;
  }

  private List<Parcel> present() {
    List<Parcel> list = new ArrayList<>();
    for (Parcel p : now.parcels) {
      if (p.last == -1) {
        list.add(p);
      }
    }
    return list;
  }

  private Parcel come(int area, int root) {
    Parcel p = new Parcel();
    p.number = now.parcels.size();
    p.area = area;
    p.first = now.day;
    p.root = root;
    now.parcels.add(p);
    return p;
  }

  private static void join(Parcel one, Parcel other) {
    one.neighbours.add(other.number);
    other.neighbours.add(one.number);
  }

  private void end(Parcel p) {
    p.last = now.day;
    p.neighbours.clear();
    for (Parcel other : now.parcels) {
      other.neighbours.remove(p.number);
    }
  }

  // ---- parcels

  int clear() {
    int many = now.parcels.size();
    now = new State();
    history.clear();
    return many;
  }

  int addParcel(int area, int holder) {
    argument(10 <= area && area <= 9999 && person(holder));
    state(now.parcels.size() < 24);
    change();
    return come(area, holder).number;
  }

  boolean border(int parcel, int other, boolean isOn) {
    Parcel p = at(parcel);
    Parcel q = at(other);
    argument(parcel != other);
    state(p.last == -1 && q.last == -1);
    change();
    p = at(parcel);
    q = at(other);
    boolean were = p.neighbours.contains(other);
    if (isOn) {
      join(p, q);
    } else {
      p.neighbours.remove(other);
      q.neighbours.remove(parcel);
    }
    return were;
  }

  int split(int parcel, int area, int first) {
    Parcel p = at(parcel);
    refuse(p.last != -1, 1);
    refuse(area < 10 || (long) p.area - area < 10, 2);
    for (int bit = 0; bit < 32; bit++) {
      refuse((first >>> bit & 1) == 1 && !p.neighbours.contains(bit), 3);
    }
    refuse(now.parcels.size() + 2 > 24, 6);
    change();
    List<Integer> around = new ArrayList<>(p.neighbours);
    end(p);
    Parcel one = come(area, p.holderOf(now.day));
    Parcel two = come(p.area - area, p.holderOf(now.day));
    one.parents.add(parcel);
    two.parents.add(parcel);
    join(one, two);
    for (int number : around) {
      join((first >>> number & 1) == 1 ? one : two, now.parcels.get(number));
    }
    for (Easement e : new ArrayList<>(now.easements)) {
      if (e.last == -1 && (e.on == parcel || e.serves == parcel)) {
        Easement twin = e.copy();
        twin.first = now.day;
        if (e.on == parcel) {
          e.on = one.number;
          twin.on = two.number;
        } else {
          e.serves = one.number;
          twin.serves = two.number;
        }
        if (now.easements.size() < 30) {
          now.easements.add(twin);
        }
      }
    }
    for (int number : now.ranking) {
      TreeSet<Integer> on = now.liens.get(number).on;
      if (on.remove(parcel)) {
        on.add(one.number);
        on.add(two.number);
      }
    }
    return one.number;
  }

  int merge(int parcel, int other) {
    Parcel p = at(parcel);
    Parcel q = at(other);
    argument(parcel != other);
    refuse(p.last != -1 || q.last != -1, 1);
    refuse(!p.neighbours.contains(other), 4);
    refuse(p.holderOf(now.day) != q.holderOf(now.day), 5);
    refuse(p.area + q.area > 9999, 2);
    refuse(now.parcels.size() + 1 > 24, 6);
    change();
    TreeSet<Integer> around = new TreeSet<>(p.neighbours);
    around.addAll(q.neighbours);
    around.remove(parcel);
    around.remove(other);
    end(p);
    end(q);
    Parcel merged = come(p.area + q.area, p.holderOf(now.day));
    merged.parents.add(parcel);
    merged.parents.add(other);
    for (int number : around) {
      join(merged, now.parcels.get(number));
    }
    mergeEasements(parcel, other, merged.number);
    for (int number : now.ranking) {
      TreeSet<Integer> on = now.liens.get(number).on;
      boolean was = on.remove(parcel);
      was |= on.remove(other);
      if (was) {
        on.add(merged.number);
      }
    }
    return merged.number;
  }

  private void mergeEasements(int one, int other, int merged) {
    List<List<Integer>> seen = new ArrayList<>();
    for (Easement e : now.easements) {
      boolean onIt = e.on == one || e.on == other;
      boolean forIt = e.serves == one || e.serves == other;
      if (e.last != -1 || !onIt && !forIt) {
        continue;
      }
      e.on = onIt ? merged : e.on;
      e.serves = forIt ? merged : e.serves;
      if (onIt && forIt) {
        e.last = now.day;
        continue;
      }
      List<Integer> what = List.of(e.kind, e.on, e.serves);
      if (seen.contains(what)) {
        e.last = now.day;
      }
      seen.add(what);
    }
  }

  int parcel(int parcel, int what) {
    Parcel p = at(parcel);
    argument(0 <= what && what <= 9);
    TreeSet<Integer> liens = new TreeSet<>();
    for (int number : now.ranking) {
      if (now.liens.get(number).on.contains(parcel)) {
        liens.add(number);
      }
    }
    int[] all = {p.area, p.first, p.last, set(p.neighbours), set(p.parents), p.root,
        p.holderOf(now.day), p.chain.size(), p.gaps(), set(liens)};
    return all[what];
  }

  private void collectOrigins(Parcel p, TreeSet<Integer> into) {
    for (int number : p.parents) {
      into.add(number);
      collectOrigins(now.parcels.get(number), into);
    }
  }

  int origins(int parcel) {
    TreeSet<Integer> all = new TreeSet<>();
    collectOrigins(at(parcel), all);
    return set(all);
  }

  int remains(int parcel) {
    at(parcel);
    TreeSet<Integer> all = new TreeSet<>();
    for (Parcel p : present()) {
      TreeSet<Integer> from = new TreeSet<>();
      collectOrigins(p, from);
      if (p.number == parcel || from.contains(parcel)) {
        all.add(p.number);
      }
    }
    return set(all);
  }

  int borders(int parcel, int other) {
    Parcel p = at(parcel);
    Parcel q = at(other);
    state(p.last == -1 && q.last == -1);
    int size = now.parcels.size();
    int[][] far = new int[size][size];
    for (int i = 0; i < size; i++) {
      for (int j = 0; j < size; j++) {
        far[i][j] = i == j ? 0 : now.parcels.get(i).neighbours.contains(j) ? 1 : 1000;
      }
    }
    for (int k = 0; k < size; k++) {
      for (int i = 0; i < size; i++) {
        for (int j = 0; j < size; j++) {
          far[i][j] = Math.min(far[i][j], far[i][k] + far[k][j]);
        }
      }
    }
    answer(far[parcel][other] < 1000);
    return far[parcel][other];
  }

  /** By trying out. */
  int partners(int parcel) {
    at(parcel);
    TreeSet<Integer> all = new TreeSet<>();
    for (int other = 0; other < now.parcels.size(); other++) {
      Model trial = new Model();
      trial.now = now.copy();
      try {
        trial.merge(parcel, other);
        all.add(other);
      } catch (IllegalArgumentException | UnsupportedOperationException thrown) {
        continue;
      }
    }
    return set(all);
  }

  int reason() {
    answer(reason != 0);
    return reason;
  }

  // ---- deeds

  int deed(int parcel, int grantor, int grantee, int day) {
    Parcel p = at(parcel);
    argument(person(grantor) && person(grantee) && p.first <= day && day <= now.day);
    state(p.last == -1 && now.deeds() < 60);
    change();
    Deed deed = new Deed();
    deed.grantor = grantor;
    deed.grantee = grantee;
    deed.day = day;
    int index = p.chain.size();
    while (index > 0 && p.chain.get(index - 1).day > day) {
      index--;
    }
    p.chain.add(index, deed);
    return p.good().get(index) ? 1 : 0;
  }

  int deedOf(int parcel, int index, int what) {
    Parcel p = at(parcel);
    index(index >= 0 && index < p.chain.size());
    argument(0 <= what && what <= 3);
    Deed deed = p.chain.get(index);
    int[] all = {deed.grantor, deed.grantee, deed.day, p.good().get(index) ? 1 : 0};
    return all[what];
  }

  int holder(int parcel, int day) {
    Parcel p = at(parcel);
    answer(day >= p.first && day <= now.day && (p.last == -1 || day < p.last));
    return p.holderOf(day);
  }

  int holdings(int person) {
    index(person(person));
    TreeSet<Integer> all = new TreeSet<>();
    for (Parcel p : present()) {
      if (p.holderOf(now.day) == person) {
        all.add(p.number);
      }
    }
    return set(all);
  }

  int holders(int parcel) {
    Parcel p = at(parcel);
    TreeSet<Integer> all = new TreeSet<>();
    all.add(p.root);
    List<Boolean> good = p.good();
    for (int k = 0; k < good.size(); k++) {
      if (good.get(k)) {
        all.add(p.chain.get(k).grantee);
      }
    }
    return set(all);
  }

  /** All choices for short chains, for long ones the longest way behind each deed. */
  int needless(int parcel) {
    Parcel p = at(parcel);
    int size = p.chain.size();
    int due = p.holderOf(now.day);
    if (size > 12) {
      return size - longestWay(p, due);
    }
    int most = 0;
    for (int choice = 0; choice < 1 << size; choice++) {
      int holder = p.root;
      for (int k = 0; k < size && holder != -1; k++) {
        if ((choice >>> k & 1) == 1) {
          holder = p.chain.get(k).grantor == holder ? p.chain.get(k).grantee : -1;
        }
      }
      if (holder == due) {
        most = Math.max(most, Integer.bitCount(choice));
      }
    }
    return size - most;
  }

  private static int longestWay(Parcel p, int due) {
    int size = p.chain.size();
    int[] most = new int[size];
    int best = p.root == due ? 0 : -1;
    for (int k = 0; k < size; k++) {
      most[k] = p.chain.get(k).grantor == p.root ? 1 : -1000;
      for (int j = 0; j < k; j++) {
        if (p.chain.get(j).grantee == p.chain.get(k).grantor) {
          most[k] = Math.max(most[k], most[j] + 1);
        }
      }
      if (p.chain.get(k).grantee == due) {
        best = Math.max(best, most[k]);
      }
    }
    return best;
  }

  // ---- easements

  int addEasement(int kind, int on, int serves) {
    Parcel p = at(on);
    Parcel q = at(serves);
    argument(0 <= kind && kind <= 3 && on != serves);
    state(p.last == -1 && q.last == -1 && now.easements.size() < 30);
    change();
    Easement e = new Easement();
    e.kind = kind;
    e.on = on;
    e.serves = serves;
    e.first = now.day;
    now.easements.add(e);
    return now.easements.size() - 1;
  }

  private Easement easementAt(int easement) {
    index(easement >= 0 && easement < now.easements.size());
    return now.easements.get(easement);
  }

  int endEasement(int easement) {
    state(easementAt(easement).last == -1);
    change();
    easementAt(easement).last = now.day;
    return account(6);
  }

  int easement(int easement, int what) {
    Easement e = easementAt(easement);
    argument(0 <= what && what <= 4);
    int[] all = {e.kind, e.on, e.serves, e.first, e.last};
    return all[what];
  }

  int easements(int parcel, boolean isOn) {
    at(parcel);
    TreeSet<Integer> all = new TreeSet<>();
    for (int k = 0; k < now.easements.size(); k++) {
      Easement e = now.easements.get(k);
      if (e.last == -1 && (isOn ? e.on : e.serves) == parcel) {
        all.add(k);
      }
    }
    return set(all);
  }

  private void reach(int parcel, int kind, TreeSet<Integer> into) {
    for (Easement e : now.easements) {
      if (e.last == -1 && e.kind == kind && e.serves == parcel && into.add(e.on)) {
        reach(e.on, kind, into);
      }
    }
  }

  int access(int parcel, int kind) {
    at(parcel);
    argument(0 <= kind && kind <= 3);
    TreeSet<Integer> all = new TreeSet<>();
    reach(parcel, kind, all);
    all.remove(parcel);
    return set(all);
  }

  // ---- liens

  int addLien(int parcel, int creditor, int amount) {
    Parcel p = at(parcel);
    argument(person(creditor) && 1 <= amount && amount <= 9999);
    state(p.last == -1 && now.liens.size() < 20);
    change();
    Lien l = new Lien();
    l.creditor = creditor;
    l.amount = amount;
    l.on.add(parcel);
    now.liens.add(l);
    now.ranking.add(now.liens.size() - 1);
    return now.liens.size() - 1;
  }

  private Lien lienNumber(int lien) {
    index(lien >= 0 && lien < now.liens.size());
    return now.liens.get(lien);
  }

  int release(int lien) {
    lienNumber(lien);
    int place = now.ranking.indexOf(lien);
    state(place >= 0);
    change();
    now.ranking.remove(place);
    return place;
  }

  int postpone(int lien, int other) {
    lienNumber(lien);
    lienNumber(other);
    int place = now.ranking.indexOf(lien);
    state(place >= 0 && now.ranking.indexOf(other) > place);
    change();
    now.ranking.remove(place);
    now.ranking.add(now.ranking.indexOf(other) + 1, lien);
    return now.ranking.indexOf(lien);
  }

  int lien(int lien, int what) {
    Lien l = lienNumber(lien);
    argument(0 <= what && what <= 3);
    int[] all = {l.creditor, l.amount, set(l.on), now.ranking.indexOf(lien)};
    return all[what];
  }

  private List<Integer> ranked(int parcel) {
    List<Integer> all = new ArrayList<>();
    for (int number : now.ranking) {
      if (now.liens.get(number).on.contains(parcel)) {
        all.add(number);
      }
    }
    return all;
  }

  int lienAt(int parcel, int place) {
    at(parcel);
    List<Integer> all = ranked(parcel);
    answer(place >= 0 && place < all.size());
    return all.get(place);
  }

  private int[] payments(int parcel, int price) {
    int[] sums = new int[11];
    sums[10] = price;
    for (int number : ranked(parcel)) {
      Lien l = now.liens.get(number);
      int payment = sums[10] < l.amount ? sums[10] : l.amount;
      sums[l.creditor] += payment;
      sums[10] -= payment;
    }
    return sums;
  }

  int paid(int parcel, int price, int creditor) {
    Parcel p = at(parcel);
    index(person(creditor));
    argument(0 <= price && price <= 1000000);
    state(p.last == -1);
    return payments(parcel, price)[creditor];
  }

  int left(int parcel, int price) {
    Parcel p = at(parcel);
    argument(0 <= price && price <= 1000000);
    state(p.last == -1);
    return payments(parcel, price)[10];
  }

  /** By halving the range of prices until the least one that is enough is found. */
  int needed(int lien, int parcel) {
    lienNumber(lien);
    at(parcel);
    answer(ranked(parcel).contains(lien));
    int low = 0;
    int high = 1000000;
    while (low < high) {
      int middle = (low + high) / 2;
      int rest = middle;
      boolean isEnough = false;
      for (int number : ranked(parcel)) {
        int amount = now.liens.get(number).amount;
        if (number == lien) {
          isEnough = rest >= amount;
        }
        rest = Math.max(0, rest - amount);
      }
      if (isEnough) {
        high = middle;
      } else {
        low = middle + 1;
      }
    }
    return low;
  }

  // ---- days, accounts, texts, history and saving

  int advance(int days) {
    argument(0 <= days && days <= 999);
    state(now.day + days <= 9999);
    change();
    now.day += days;
    return now.day;
  }

  int account(int account) {
    argument(0 <= account && account <= 10);
    int[] all = new int[11];
    all[0] = now.parcels.size();
    all[1] = present().size();
    for (Parcel p : now.parcels) {
      all[2] += p.last == -1 ? p.area : 0;
      all[3] += p.parents.isEmpty() ? p.area : 0;
      all[5] += p.gaps();
      for (int number : p.neighbours) {
        all[10] += number > p.number ? 1 : 0;
      }
    }
    all[4] = now.deeds();
    for (Easement e : now.easements) {
      all[6] += e.last == -1 ? 1 : 0;
    }
    all[7] = now.ranking.size();
    for (int number : now.ranking) {
      all[8] += now.liens.get(number).amount;
    }
    all[9] = now.day;
    return all[account];
  }

  double meanArea(int person) {
    index(person(person));
    double sum = 0;
    double many = 0;
    for (Parcel p : present()) {
      if (p.holderOf(now.day) == person) {
        sum += p.area;
        many += 1;
      }
    }
    if (many == 0) {
      throw new ArithmeticException();
    }
    return sum / many;
  }

  int append(char character) {
    argument(32 <= character && character <= 126);
    state(input.length() < 80);
    input += character;
    return input.length();
  }

  private static boolean canGoOn(String start) {
    Matcher matcher = TEXT.matcher(start);
    return matcher.matches() || matcher.hitEnd();
  }

  private static int errorOf(String text) {
    for (int k = 0; k < text.length(); k++) {
      if (!canGoOn(text.substring(0, k + 1))) {
        return k;
      }
    }
    return text.length();
  }

  int read() {
    String text = input;
    input = "";
    if (!TEXT.matcher(text).matches()) {
      position = errorOf(text);
      throw new IllegalArgumentException();
    }
    Model trial = new Model();
    trial.now = now.copy();
    trial.reason = reason;
    String[] commands = text.split(";");
    try {
      for (String command : commands) {
        trial.perform(command.split(" "));
      }
    } catch (RuntimeException thrown) {
      reason = trial.reason;
      throw new IllegalStateException();
    }
    change();
    now = trial.now;
    return commands.length;
  }

  private void perform(String[] parts) {
    int[] n = new int[3];
    for (int k = 1; k < parts.length; k++) {
      n[k - 1] = Integer.parseInt(parts[k]);
    }
    switch (parts[0]) {
      case "split" -> split(n[0], n[1], set(at(n[0]).neighbours));
      case "merge" -> merge(n[0], n[1]);
      case "deed" -> deed(n[0], n[1], n[2], now.day);
      case "way" -> addEasement(0, n[0], n[1]);
      case "lien" -> addLien(n[0], n[1], n[2]);
      default -> advance(n[0]);
    }
  }

  int errorPosition() {
    answer(position != -1);
    return position;
  }

  int undo() {
    answer(!history.isEmpty());
    now = history.remove(history.size() - 1);
    return history.size();
  }

  int save() {
    saved = now.copy();
    return present().size();
  }

  int restore() {
    state(saved != null);
    now = saved.copy();
    history.clear();
    return present().size();
  }
}
