import java.util.NoSuchElementException;

/**
 * A registry of land: parcels, deeds, easements, liens, days, texts of commands, undo and saving.
 * The numbered promises of the document say what each call does; sets are bit masks.
 */
public final class ParcelRegistry {
  private static final int PERSONS = 10;
  private static final int KINDS = 4;
  private static final int GREATEST_DAY = 9999;
  private static final int MOST_DAYS = 999;
  private static final int GREATEST_AMOUNT = 9999;
  private static final int GREATEST_PRICE = 1000000;
  private static final int NONE = -1;

  // What hinders a call. The reasons of refusals keep the numbers that reason() answers.
  private static final int FINE = 0;
  private static final int NOT_PRESENT = 1;
  private static final int BAD_AREA = 2;
  private static final int BAD_SET = 3;
  private static final int NO_NEIGHBOURS = 4;
  private static final int OTHER_HOLDER = 5;
  private static final int TOO_MANY = 6;
  private static final int NO_SUCH = 7;
  private static final int OUT_OF_RANGE = 8;
  private static final int HINDERED = 9;

  private final World world;
  private final World before;
  private final World kept;
  private final History history;
  private final Text text;
  private boolean isKept;
  private int lastReason;
  private int lastPosition;

  public ParcelRegistry() {
    world = new World();
    before = new World();
    kept = new World();
    history = new History();
    text = new Text();
    isKept = false;
    lastReason = NONE;
    lastPosition = NONE;
  }

  public int clear() {
    int parcels = world.parcels.count;
    world.empty();
    history.forget();
    return parcels;
  }

  // ---- parcels

  public int addParcel(int area, int holder)
      throws IllegalArgumentException, IllegalStateException {
    raise(world.faultOfParcel(area, holder));
    history.remember(world);
    return world.parcels.come(area, holder, 0, world.day);
  }

  public boolean border(int parcel, int other, boolean isOn)
      throws IndexOutOfBoundsException, IllegalArgumentException, IllegalStateException {
    raise(world.faultOfBorder(parcel, other));
    history.remember(world);
    boolean were = world.parcels.areNeighbours(parcel, other);
    if (isOn) {
      world.parcels.link(parcel, other);
    } else {
      world.parcels.unlink(parcel, other);
    }
    return were;
  }

  public int split(int parcel, int area, int first)
      throws IndexOutOfBoundsException, UnsupportedOperationException {
    int fault = world.faultOfSplit(parcel, area, first);
    keepReason(fault);
    raise(fault);
    history.remember(world);
    return world.divide(parcel, area, first);
  }

  public int merge(int parcel, int other)
      throws IndexOutOfBoundsException, IllegalArgumentException, UnsupportedOperationException {
    int fault = world.faultOfMerge(parcel, other);
    keepReason(fault);
    raise(fault);
    history.remember(world);
    return world.unite(parcel, other);
  }

  public int parcel(int parcel, int what)
      throws IndexOutOfBoundsException, IllegalArgumentException {
    checkNumber(world.parcels.has(parcel));
    checkArgument(isFrom(what, 0, 9));
    if (what <= 5) {
      return world.parcels.rowOf(parcel, what);
    }
    int root = world.parcels.root[parcel];
    switch (what) {
      case 6:
        return world.holderNow(parcel);
      case 7:
        return world.deeds.countOf(parcel);
      case 8:
        return world.deeds.gapsOf(parcel, root);
      default:
        return world.liens.onParcel(parcel);
    }
  }

  public int origins(int parcel) throws IndexOutOfBoundsException {
    checkNumber(world.parcels.has(parcel));
    return world.parcels.ancestorsOf(parcel);
  }

  public int remains(int parcel) throws IndexOutOfBoundsException {
    checkNumber(world.parcels.has(parcel));
    return world.parcels.heirsOf(parcel) & world.parcels.presentOnes();
  }

  public int borders(int parcel, int other)
      throws IndexOutOfBoundsException, IllegalStateException, NoSuchElementException {
    checkNumber(world.parcels.has(parcel) && world.parcels.has(other));
    checkState(world.parcels.isPresent(parcel) && world.parcels.isPresent(other));
    int steps = world.parcels.stepsBetween(parcel, other);
    checkAnswer(steps != NONE);
    return steps;
  }

  public int partners(int parcel) throws IndexOutOfBoundsException {
    checkNumber(world.parcels.has(parcel));
    int set = 0;
    for (int other = 0; other < world.parcels.count; other++) {
      if (world.faultOfMerge(parcel, other) == FINE) {
        set |= 1 << other;
      }
    }
    return set;
  }

  public int reason() throws NoSuchElementException {
    checkAnswer(lastReason != NONE);
    return lastReason;
  }

  // ---- deeds

  public int deed(int parcel, int grantor, int grantee, int day)
      throws IndexOutOfBoundsException, IllegalArgumentException, IllegalStateException {
    raise(world.faultOfDeed(parcel, grantor, grantee, day));
    history.remember(world);
    int row = world.deeds.record(parcel, grantor, grantee, day);
    return world.deeds.isGood(row, world.parcels.root[parcel]) ? 1 : 0;
  }

  public int deedOf(int parcel, int index, int what)
      throws IndexOutOfBoundsException, IllegalArgumentException {
    checkNumber(world.parcels.has(parcel));
    int row = world.deeds.rowAt(parcel, index);
    checkNumber(row != NONE);
    checkArgument(isFrom(what, 0, 3));
    switch (what) {
      case 0:
        return world.deeds.grantor[row];
      case 1:
        return world.deeds.grantee[row];
      case 2:
        return world.deeds.dayOf[row];
      default:
        return world.deeds.isGood(row, world.parcels.root[parcel]) ? 1 : 0;
    }
  }

  public int holder(int parcel, int day)
      throws IndexOutOfBoundsException, NoSuchElementException {
    checkNumber(world.parcels.has(parcel));
    checkAnswer(world.wasThere(parcel, day));
    return world.holderAt(parcel, day);
  }

  public int holdings(int person) throws IndexOutOfBoundsException {
    checkNumber(isPerson(person));
    return world.presentOf(person);
  }

  public int holders(int parcel) throws IndexOutOfBoundsException {
    checkNumber(world.parcels.has(parcel));
    return world.deeds.everHolding(parcel, world.parcels.root[parcel]);
  }

  public int needless(int parcel) throws IndexOutOfBoundsException {
    checkNumber(world.parcels.has(parcel));
    int most = world.deeds.mostWithoutGap(parcel, world.parcels.root[parcel]);
    return world.deeds.countOf(parcel) - most;
  }

  // ---- easements

  public int addEasement(int kind, int on, int serves)
      throws IndexOutOfBoundsException, IllegalArgumentException, IllegalStateException {
    raise(world.faultOfEasement(kind, on, serves));
    history.remember(world);
    return world.easements.come(kind, on, serves, world.day);
  }

  public int endEasement(int easement) throws IndexOutOfBoundsException, IllegalStateException {
    checkNumber(world.easements.has(easement));
    checkState(world.easements.isLive(easement));
    history.remember(world);
    world.easements.end(easement, world.day);
    return world.easements.liveCount();
  }

  public int easement(int easement, int what)
      throws IndexOutOfBoundsException, IllegalArgumentException {
    checkNumber(world.easements.has(easement));
    checkArgument(isFrom(what, 0, 4));
    switch (what) {
      case 0:
        return world.easements.kind[easement];
      case 1:
        return world.easements.on[easement];
      case 2:
        return world.easements.serves[easement];
      case 3:
        return world.easements.firstDay[easement];
      default:
        return world.easements.lastDay[easement];
    }
  }

  public int easements(int parcel, boolean isOn) throws IndexOutOfBoundsException {
    checkNumber(world.parcels.has(parcel));
    return isOn ? world.easements.liveOn(parcel) : world.easements.liveFor(parcel);
  }

  public int access(int parcel, int kind)
      throws IndexOutOfBoundsException, IllegalArgumentException {
    checkNumber(world.parcels.has(parcel));
    checkArgument(isFrom(kind, 0, KINDS - 1));
    return world.easements.reachedFrom(parcel, kind);
  }

  // ---- liens

  public int addLien(int parcel, int creditor, int amount)
      throws IndexOutOfBoundsException, IllegalArgumentException, IllegalStateException {
    raise(world.faultOfLien(parcel, creditor, amount));
    history.remember(world);
    return world.liens.come(parcel, creditor, amount);
  }

  public int release(int lien) throws IndexOutOfBoundsException, IllegalStateException {
    checkNumber(world.liens.has(lien));
    int place = world.liens.placeOf(lien);
    checkState(place != NONE);
    history.remember(world);
    world.liens.dropPlace(place);
    return place;
  }

  public int postpone(int lien, int other)
      throws IndexOutOfBoundsException, IllegalStateException {
    checkNumber(world.liens.has(lien) && world.liens.has(other));
    int place = world.liens.placeOf(lien);
    int behind = world.liens.placeOf(other);
    checkState(place != NONE && behind > place);
    history.remember(world);
    world.liens.moveBack(place, behind);
    return behind;
  }

  public int lien(int lien, int what)
      throws IndexOutOfBoundsException, IllegalArgumentException {
    checkNumber(world.liens.has(lien));
    checkArgument(isFrom(what, 0, 3));
    switch (what) {
      case 0:
        return world.liens.creditor[lien];
      case 1:
        return world.liens.amount[lien];
      case 2:
        return world.liens.parcels[lien];
      default:
        return world.liens.placeOf(lien);
    }
  }

  public int lienAt(int parcel, int place)
      throws IndexOutOfBoundsException, NoSuchElementException {
    checkNumber(world.parcels.has(parcel));
    int lien = world.liens.atPlace(parcel, place);
    checkAnswer(lien != NONE);
    return lien;
  }

  public int paid(int parcel, int price, int creditor)
      throws IndexOutOfBoundsException, IllegalArgumentException, IllegalStateException {
    checkNumber(world.parcels.has(parcel) && isPerson(creditor));
    checkArgument(isFrom(price, 0, GREATEST_PRICE));
    checkState(world.parcels.isPresent(parcel));
    return world.liens.paidTo(creditor, parcel, price);
  }

  public int left(int parcel, int price)
      throws IndexOutOfBoundsException, IllegalArgumentException, IllegalStateException {
    checkNumber(world.parcels.has(parcel));
    checkArgument(isFrom(price, 0, GREATEST_PRICE));
    checkState(world.parcels.isPresent(parcel));
    return Math.max(0, price - world.liens.sumOn(parcel));
  }

  public int needed(int lien, int parcel)
      throws IndexOutOfBoundsException, NoSuchElementException {
    checkNumber(world.liens.has(lien) && world.parcels.has(parcel));
    checkAnswer(world.liens.isLiveOn(lien, parcel));
    return world.liens.sumUpTo(lien, parcel);
  }

  // ---- days, accounts, texts, history and saving

  public int advance(int days) throws IllegalArgumentException, IllegalStateException {
    raise(world.faultOfDays(days));
    history.remember(world);
    world.day += days;
    return world.day;
  }

  public int account(int account) throws IllegalArgumentException {
    checkArgument(isFrom(account, 0, 10));
    switch (account) {
      case 0:
        return world.parcels.count;
      case 1:
        return Integer.bitCount(world.parcels.presentOnes());
      case 2:
        return world.parcels.areaOf(world.parcels.presentOnes());
      case 3:
        return world.parcels.areaOf(world.parcels.addedOnes());
      case 4:
        return world.deeds.count;
      case 5:
        return world.allGaps();
      case 6:
        return world.easements.liveCount();
      case 7:
        return world.liens.ranked;
      case 8:
        return world.liens.sumOfAll();
      case 9:
        return world.day;
      default:
        return world.parcels.pairs();
    }
  }

  public double meanArea(int person) throws IndexOutOfBoundsException, ArithmeticException {
    checkNumber(isPerson(person));
    int set = world.presentOf(person);
    if (set == 0) {
      throw new ArithmeticException("the person holds no parcel");
    }
    return (double) world.parcels.areaOf(set) / (double) Integer.bitCount(set);
  }

  public int append(char character) throws IllegalArgumentException, IllegalStateException {
    checkArgument(character >= 32 && character <= 126);
    checkState(text.length < Text.LIMIT);
    text.put(character);
    return text.length;
  }

  public int read() throws IllegalArgumentException, IllegalStateException {
    boolean isRight = text.scan();
    text.length = 0;
    if (!isRight) {
      lastPosition = text.at;
    }
    checkArgument(isRight);
    before.copyFrom(world);
    boolean isDone = carryOut();
    if (!isDone) {
      world.copyFrom(before);
    }
    checkState(isDone);
    history.remember(before);
    return text.commands;
  }

  public int errorPosition() throws NoSuchElementException {
    checkAnswer(lastPosition != NONE);
    return lastPosition;
  }

  public int undo() throws NoSuchElementException {
    checkAnswer(history.count > 0);
    history.takeBack(world);
    return history.count;
  }

  public int save() {
    kept.copyFrom(world);
    isKept = true;
    return Integer.bitCount(world.parcels.presentOnes());
  }

  public int restore() throws IllegalStateException {
    checkState(isKept);
    world.copyFrom(kept);
    history.forget();
    return Integer.bitCount(world.parcels.presentOnes());
  }

  // ---- what several calls share

  private static boolean isFrom(int number, int least, int greatest) {
    return number >= least && number <= greatest;
  }

  private static boolean isPerson(int number) {
    return isFrom(number, 0, PERSONS - 1);
  }

  private static boolean isIn(int set, int number) {
    return (set >>> number & 1) != 0;
  }

  private static void checkNumber(boolean exists) {
    if (!exists) {
      throw new IndexOutOfBoundsException("there is no such number");
    }
  }

  private static void checkArgument(boolean isRight) {
    if (!isRight) {
      throw new IllegalArgumentException("an argument is not in its range");
    }
  }

  private static void checkState(boolean isPossible) {
    if (!isPossible) {
      throw new IllegalStateException("this cannot be done now");
    }
  }

  private static void checkAnswer(boolean isThere) {
    if (!isThere) {
      throw new NoSuchElementException("there is no answer");
    }
  }

  private static boolean isRefusal(int fault) {
    return isFrom(fault, NOT_PRESENT, TOO_MANY);
  }

  private static void raise(int fault) {
    checkNumber(fault != NO_SUCH);
    checkArgument(fault != OUT_OF_RANGE);
    checkState(fault != HINDERED);
    if (isRefusal(fault)) {
      throw new UnsupportedOperationException("refused; reason() tells why");
    }
  }

  private void keepReason(int fault) {
    if (isRefusal(fault)) {
      lastReason = fault;
    }
  }

  /** Does the commands of the text; false if one cannot be done, with some of them done then. */
  private boolean carryOut() {
    for (int command = 0; command < text.commands; command++) {
      int fault = faultOfCommand(command);
      if (fault != FINE) {
        keepReason(fault);
        return false;
      }
      doCommand(command);
    }
    return true;
  }

  private int faultOfCommand(int command) {
    int first = text.numberOf(command, 0);
    int second = text.numberOf(command, 1);
    int third = text.numberOf(command, 2);
    switch (text.wordOf(command)) {
      case Text.SPLIT:
        return world.faultOfSplit(first, second, world.parcels.neighboursOf(first));
      case Text.MERGE:
        return world.faultOfMerge(first, second);
      case Text.DEED:
        return world.faultOfDeed(first, second, third, world.day);
      case Text.WAY:
        return world.faultOfEasement(0, first, second);
      case Text.LIEN:
        return world.faultOfLien(first, second, third);
      default:
        return world.faultOfDays(first);
    }
  }

  private void doCommand(int command) {
    int first = text.numberOf(command, 0);
    int second = text.numberOf(command, 1);
    int third = text.numberOf(command, 2);
    switch (text.wordOf(command)) {
      case Text.SPLIT:
        world.divide(first, second, world.parcels.neighboursOf(first));
        break;
      case Text.MERGE:
        world.unite(first, second);
        break;
      case Text.DEED:
        world.deeds.record(first, second, third, world.day);
        break;
      case Text.WAY:
        world.easements.come(0, first, second, world.day);
        break;
      case Text.LIEN:
        world.liens.come(first, second, third);
        break;
      default:
        world.day += first;
        break;
    }
  }

  /** The parcels by their numbers. */
  private static final class Parcels {
    static final int LIMIT = 24;
    static final int LEAST_AREA = 10;
    static final int GREATEST_AREA = 9999;

    int count = 0;
    final int[] area = new int[LIMIT];
    final int[] firstDay = new int[LIMIT];
    final int[] lastDay = new int[LIMIT];
    final int[] neighbours = new int[LIMIT];
    final int[] parents = new int[LIMIT];
    final int[] root = new int[LIMIT];

    void copyFrom(Parcels other) {
      count = other.count;
      System.arraycopy(other.area, 0, area, 0, LIMIT);
      System.arraycopy(other.firstDay, 0, firstDay, 0, LIMIT);
      System.arraycopy(other.lastDay, 0, lastDay, 0, LIMIT);
      System.arraycopy(other.neighbours, 0, neighbours, 0, LIMIT);
      System.arraycopy(other.parents, 0, parents, 0, LIMIT);
      System.arraycopy(other.root, 0, root, 0, LIMIT);
    }

    boolean has(int number) {
      return number >= 0 && number < count;
    }

    boolean isPresent(int number) {
      return has(number) && lastDay[number] == NONE;
    }

    /** The new parcel's number, or NONE where there is no room. */
    int come(int itsArea, int itsRoot, int itsParents, int day) {
      if (count >= LIMIT) {
        return NONE;
      }
      area[count] = itsArea;
      firstDay[count] = day;
      lastDay[count] = NONE;
      neighbours[count] = 0;
      parents[count] = itsParents;
      root[count] = itsRoot;
      count++;
      return count - 1;
    }

    void end(int number, int day) {
      if (!has(number)) {
        return;
      }
      for (int other = 0; other < count; other++) {
        neighbours[other] &= ~(1 << number);
      }
      neighbours[number] = 0;
      lastDay[number] = day;
    }

    int rowOf(int number, int what) {
      if (!has(number)) {
        return NONE;
      }
      switch (what) {
        case 0:
          return area[number];
        case 1:
          return firstDay[number];
        case 2:
          return lastDay[number];
        case 3:
          return neighbours[number];
        case 4:
          return parents[number];
        default:
          return root[number];
      }
    }

    int neighboursOf(int number) {
      return has(number) ? neighbours[number] : 0;
    }

    boolean areNeighbours(int one, int other) {
      return isIn(neighboursOf(one), other);
    }

    void link(int one, int other) {
      if (has(one) && has(other)) {
        neighbours[one] |= 1 << other;
        neighbours[other] |= 1 << one;
      }
    }

    void linkAll(int one, int set) {
      for (int other = 0; other < count; other++) {
        if (isIn(set, other)) {
          link(one, other);
        }
      }
    }

    void unlink(int one, int other) {
      if (has(one) && has(other)) {
        neighbours[one] &= ~(1 << other);
        neighbours[other] &= ~(1 << one);
      }
    }

    int presentOnes() {
      int set = 0;
      for (int number = 0; number < count; number++) {
        if (lastDay[number] == NONE) {
          set |= 1 << number;
        }
      }
      return set;
    }

    /** Only a parcel that was added has no parents. */
    int addedOnes() {
      int set = 0;
      for (int number = 0; number < count; number++) {
        if (parents[number] == 0) {
          set |= 1 << number;
        }
      }
      return set;
    }

    int areaOf(int set) {
      int sum = 0;
      for (int number = 0; number < count; number++) {
        if (isIn(set, number)) {
          sum += area[number];
        }
      }
      return sum;
    }

    /** Parents have lower numbers, so one way down finds all. */
    int ancestorsOf(int number) {
      if (!has(number)) {
        return 0;
      }
      int set = parents[number];
      for (int other = number - 1; other >= 0; other--) {
        if (isIn(set, other)) {
          set |= parents[other];
        }
      }
      return set;
    }

    /** The parcel and all that came from it; these have higher numbers. */
    int heirsOf(int number) {
      if (!has(number)) {
        return 0;
      }
      int set = 1 << number;
      for (int other = number + 1; other < count; other++) {
        if ((parents[other] & set) != 0) {
          set |= 1 << other;
        }
      }
      return set;
    }

    /** NONE where there is no way; a shortest way crosses fewer borders than there are parcels. */
    int stepsBetween(int from, int to) {
      int reached = 1 << from;
      for (int steps = 0; steps < LIMIT; steps++) {
        if (isIn(reached, to)) {
          return steps;
        }
        reached |= neighboursOfAll(reached);
      }
      return NONE;
    }

    private int neighboursOfAll(int set) {
      int all = 0;
      for (int number = 0; number < count; number++) {
        if (isIn(set, number)) {
          all |= neighbours[number];
        }
      }
      return all;
    }

    int pairs() {
      int ends = 0;
      for (int number = 0; number < count; number++) {
        ends += Integer.bitCount(neighbours[number]);
      }
      return ends / 2;
    }
  }

  /**
   * The deeds of all parcels in one row, by their days and behind equal days as they were recorded:
   * the chain of a parcel is what belongs to it, in the order of the row.
   */
  private static final class Deeds {
    static final int LIMIT = 60;

    int count = 0;
    final int[] parcelOf = new int[LIMIT];
    final int[] grantor = new int[LIMIT];
    final int[] grantee = new int[LIMIT];
    final int[] dayOf = new int[LIMIT];
    private final int[] most = new int[PERSONS];

    void copyFrom(Deeds other) {
      count = other.count;
      System.arraycopy(other.parcelOf, 0, parcelOf, 0, LIMIT);
      System.arraycopy(other.grantor, 0, grantor, 0, LIMIT);
      System.arraycopy(other.grantee, 0, grantee, 0, LIMIT);
      System.arraycopy(other.dayOf, 0, dayOf, 0, LIMIT);
    }

    /** The new deed's place in the row, or NONE where there is no room. */
    int record(int parcel, int from, int to, int day) {
      if (count >= LIMIT) {
        return NONE;
      }
      int row = rowsUpTo(day);
      for (int later = count; later > row; later--) {
        parcelOf[later] = parcelOf[later - 1];
        grantor[later] = grantor[later - 1];
        grantee[later] = grantee[later - 1];
        dayOf[later] = dayOf[later - 1];
      }
      parcelOf[row] = parcel;
      grantor[row] = from;
      grantee[row] = to;
      dayOf[row] = day;
      count++;
      return row;
    }

    int rowsUpTo(int day) {
      int rows = 0;
      for (int row = 0; row < count; row++) {
        if (dayOf[row] <= day) {
          rows++;
        }
      }
      return rows;
    }

    /** The holder behind those of the first rows that belong to the parcel. */
    int holderBehind(int parcel, int root, int rows) {
      int holding = root;
      for (int row = 0; row < rows && row < count; row++) {
        if (parcelOf[row] == parcel && grantor[row] == holding) {
          holding = grantee[row];
        }
      }
      return holding;
    }

    boolean isGood(int row, int root) {
      if (row < 0 || row >= count) {
        return false;
      }
      return holderBehind(parcelOf[row], root, row) == grantor[row];
    }

    int countOf(int parcel) {
      int number = 0;
      for (int row = 0; row < count; row++) {
        if (parcelOf[row] == parcel) {
          number++;
        }
      }
      return number;
    }

    int gapsOf(int parcel, int root) {
      int gaps = 0;
      int holding = root;
      for (int row = 0; row < count; row++) {
        if (parcelOf[row] == parcel) {
          if (grantor[row] == holding) {
            holding = grantee[row];
          } else {
            gaps++;
          }
        }
      }
      return gaps;
    }

    int rowAt(int parcel, int index) {
      int number = 0;
      for (int row = 0; row < count; row++) {
        if (parcelOf[row] == parcel) {
          if (number == index) {
            return row;
          }
          number++;
        }
      }
      return NONE;
    }

    int everHolding(int parcel, int root) {
      int set = 1 << root;
      int holding = root;
      for (int row = 0; row < count; row++) {
        if (parcelOf[row] == parcel && grantor[row] == holding) {
          holding = grantee[row];
          set |= 1 << holding;
        }
      }
      return set;
    }

    /** The most deeds of the chain that lead from the root to its last holder without a gap. */
    int mostWithoutGap(int parcel, int root) {
      for (int person = 0; person < PERSONS; person++) {
        most[person] = person == root ? 0 : NONE;
      }
      for (int row = 0; row < count; row++) {
        int from = grantor[row];
        int to = grantee[row];
        if (parcelOf[row] == parcel && isPerson(from) && isPerson(to) && most[from] != NONE) {
          most[to] = Math.max(most[to], most[from] + 1);
        }
      }
      int last = holderBehind(parcel, root, count);
      return isPerson(last) ? most[last] : 0;
    }
  }

  /** The easements by their numbers. */
  private static final class Easements {
    static final int LIMIT = 30;

    int count = 0;
    final int[] kind = new int[LIMIT];
    final int[] on = new int[LIMIT];
    final int[] serves = new int[LIMIT];
    final int[] firstDay = new int[LIMIT];
    final int[] lastDay = new int[LIMIT];

    void copyFrom(Easements other) {
      count = other.count;
      System.arraycopy(other.kind, 0, kind, 0, LIMIT);
      System.arraycopy(other.on, 0, on, 0, LIMIT);
      System.arraycopy(other.serves, 0, serves, 0, LIMIT);
      System.arraycopy(other.firstDay, 0, firstDay, 0, LIMIT);
      System.arraycopy(other.lastDay, 0, lastDay, 0, LIMIT);
    }

    boolean has(int number) {
      return number >= 0 && number < count;
    }

    boolean isLive(int number) {
      return has(number) && lastDay[number] == NONE;
    }

    /** The new easement's number, or NONE where there is no room. */
    int come(int itsKind, int lies, int helps, int day) {
      if (count >= LIMIT) {
        return NONE;
      }
      kind[count] = itsKind;
      on[count] = lies;
      serves[count] = helps;
      firstDay[count] = day;
      lastDay[count] = NONE;
      count++;
      return count - 1;
    }

    void end(int number, int day) {
      if (has(number)) {
        lastDay[number] = day;
      }
    }

    int liveCount() {
      int live = 0;
      for (int number = 0; number < count; number++) {
        if (lastDay[number] == NONE) {
          live++;
        }
      }
      return live;
    }

    int liveOn(int parcel) {
      int set = 0;
      for (int number = 0; number < count; number++) {
        if (lastDay[number] == NONE && on[number] == parcel) {
          set |= 1 << number;
        }
      }
      return set;
    }

    int liveFor(int parcel) {
      int set = 0;
      for (int number = 0; number < count; number++) {
        if (lastDay[number] == NONE && serves[number] == parcel) {
          set |= 1 << number;
        }
      }
      return set;
    }

    /** No way needs more easements than there are parcels, so as many rounds find all. */
    int reachedFrom(int parcel, int itsKind) {
      int reached = 1 << parcel;
      for (int round = 0; round < Parcels.LIMIT; round++) {
        reached |= lyingFor(reached, itsKind);
      }
      return reached & ~(1 << parcel);
    }

    /** The parcels on which the easements lie that serve one of a set. */
    private int lyingFor(int parcels, int itsKind) {
      int set = 0;
      for (int number = 0; number < count; number++) {
        if (lastDay[number] == NONE && kind[number] == itsKind && isIn(parcels, serves[number])) {
          set |= 1 << on[number];
        }
      }
      return set;
    }

    void followSplit(int parcel, int first, int second, int day) {
      int old = count;
      for (int number = 0; number < old; number++) {
        if (lastDay[number] == NONE && touches(number, parcel)) {
          int lies = on[number] == parcel ? second : on[number];
          int helps = serves[number] == parcel ? second : serves[number];
          // Without room no copy comes, and the split is done all the same.
          come(kind[number], lies, helps, day);
          on[number] = on[number] == parcel ? first : on[number];
          serves[number] = serves[number] == parcel ? first : serves[number];
        }
      }
    }

    /** One that ends by the merge follows it, too: it ends as one on or for the merged parcel. */
    void followMerge(int one, int other, int merged, int day) {
      for (int number = 0; number < count; number++) {
        if (lastDay[number] == NONE) {
          on[number] = on[number] == one || on[number] == other ? merged : on[number];
          serves[number] =
              serves[number] == one || serves[number] == other ? merged : serves[number];
          if (on[number] == serves[number]) {
            lastDay[number] = day;
          }
        }
      }
      endRepeated(merged, day);
    }

    private void endRepeated(int parcel, int day) {
      for (int number = 0; number < count; number++) {
        if (lastDay[number] == NONE && touches(number, parcel) && hasTwinAhead(number)) {
          lastDay[number] = day;
        }
      }
    }

    private boolean touches(int number, int parcel) {
      return on[number] == parcel || serves[number] == parcel;
    }

    private boolean hasTwinAhead(int number) {
      for (int twin = 0; twin < number; twin++) {
        if (lastDay[twin] == NONE && kind[twin] == kind[number]
            && on[twin] == on[number] && serves[twin] == serves[number]) {
          return true;
        }
      }
      return false;
    }
  }

  /** The liens by their numbers, and the ranking of those that have not been released. */
  private static final class Liens {
    static final int LIMIT = 20;

    int count = 0;
    int ranked = 0;
    final int[] creditor = new int[LIMIT];
    final int[] amount = new int[LIMIT];
    final int[] parcels = new int[LIMIT];
    final int[] ranking = new int[LIMIT];

    void copyFrom(Liens other) {
      count = other.count;
      ranked = other.ranked;
      System.arraycopy(other.creditor, 0, creditor, 0, LIMIT);
      System.arraycopy(other.amount, 0, amount, 0, LIMIT);
      System.arraycopy(other.parcels, 0, parcels, 0, LIMIT);
      System.arraycopy(other.ranking, 0, ranking, 0, LIMIT);
    }

    boolean has(int number) {
      return number >= 0 && number < count;
    }

    /** The new lien's number, or NONE where there is no room. */
    int come(int parcel, int person, int money) {
      if (count >= LIMIT || ranked >= LIMIT) {
        return NONE;
      }
      creditor[count] = person;
      amount[count] = money;
      parcels[count] = 1 << parcel;
      ranking[ranked] = count;
      ranked++;
      count++;
      return count - 1;
    }

    int placeOf(int number) {
      for (int place = 0; place < ranked; place++) {
        if (ranking[place] == number) {
          return place;
        }
      }
      return NONE;
    }

    void dropPlace(int place) {
      if (place < 0 || place >= ranked) {
        return;
      }
      moveBack(place, ranked - 1);
      ranked--;
    }

    void moveBack(int place, int behind) {
      if (place < 0 || behind < place || behind >= ranked) {
        return;
      }
      int number = ranking[place];
      for (int next = place; next < behind; next++) {
        ranking[next] = ranking[next + 1];
      }
      ranking[behind] = number;
    }

    /** Whether the lien at a place of the ranking lies on a parcel. */
    private boolean liesOn(int place, int parcel) {
      return isIn(parcels[ranking[place]], parcel);
    }

    boolean isLiveOn(int number, int parcel) {
      return isIn(onParcel(parcel), number);
    }

    int onParcel(int parcel) {
      int set = 0;
      for (int place = 0; place < ranked; place++) {
        if (liesOn(place, parcel)) {
          set |= 1 << ranking[place];
        }
      }
      return set;
    }

    int atPlace(int parcel, int wanted) {
      int found = 0;
      for (int place = 0; place < ranked; place++) {
        if (liesOn(place, parcel)) {
          if (found == wanted) {
            return ranking[place];
          }
          found++;
        }
      }
      return NONE;
    }

    int paidTo(int person, int parcel, int price) {
      int rest = price;
      int sum = 0;
      for (int place = 0; place < ranked; place++) {
        if (liesOn(place, parcel)) {
          int payment = Math.min(rest, amount[ranking[place]]);
          rest -= payment;
          sum += creditor[ranking[place]] == person ? payment : 0;
        }
      }
      return sum;
    }

    int sumOn(int parcel) {
      int sum = 0;
      for (int place = 0; place < ranked; place++) {
        if (liesOn(place, parcel)) {
          sum += amount[ranking[place]];
        }
      }
      return sum;
    }

    int sumUpTo(int number, int parcel) {
      int sum = 0;
      int last = placeOf(number);
      for (int place = 0; place <= last; place++) {
        if (liesOn(place, parcel)) {
          sum += amount[ranking[place]];
        }
      }
      return sum;
    }

    int sumOfAll() {
      int sum = 0;
      for (int place = 0; place < ranked; place++) {
        sum += amount[ranking[place]];
      }
      return sum;
    }

    void follow(int ended, int come) {
      for (int place = 0; place < ranked; place++) {
        int number = ranking[place];
        if ((parcels[number] & ended) != 0) {
          parcels[number] = parcels[number] & ~ended | come;
        }
      }
    }
  }

  /** All that the history remembers and that is saved. */
  private static final class World {
    int day = 0;
    final Parcels parcels = new Parcels();
    final Deeds deeds = new Deeds();
    final Easements easements = new Easements();
    final Liens liens = new Liens();

    void copyFrom(World other) {
      day = other.day;
      parcels.copyFrom(other.parcels);
      deeds.copyFrom(other.deeds);
      easements.copyFrom(other.easements);
      liens.copyFrom(other.liens);
    }

    void empty() {
      day = 0;
      parcels.count = 0;
      deeds.count = 0;
      easements.count = 0;
      liens.count = 0;
      liens.ranked = 0;
    }

    int holderAt(int parcel, int itsDay) {
      if (!parcels.has(parcel)) {
        return NONE;
      }
      return deeds.holderBehind(parcel, parcels.root[parcel], deeds.rowsUpTo(itsDay));
    }

    /** The one behind all deeds of the parcel, since none is of a later day. */
    int holderNow(int parcel) {
      return holderAt(parcel, GREATEST_DAY);
    }

    boolean wasThere(int parcel, int itsDay) {
      if (!parcels.has(parcel)) {
        return false;
      }
      boolean isLive = parcels.isPresent(parcel) || itsDay < parcels.lastDay[parcel];
      return isLive && isFrom(itsDay, parcels.firstDay[parcel], day);
    }

    int presentOf(int person) {
      int set = 0;
      for (int parcel = 0; parcel < parcels.count; parcel++) {
        if (parcels.isPresent(parcel) && holderNow(parcel) == person) {
          set |= 1 << parcel;
        }
      }
      return set;
    }

    int allGaps() {
      int gaps = 0;
      for (int parcel = 0; parcel < parcels.count; parcel++) {
        gaps += deeds.gapsOf(parcel, parcels.root[parcel]);
      }
      return gaps;
    }

    int faultOfParcel(int area, int holding) {
      if (!isFrom(area, Parcels.LEAST_AREA, Parcels.GREATEST_AREA) || !isPerson(holding)) {
        return OUT_OF_RANGE;
      }
      return parcels.count < Parcels.LIMIT ? FINE : HINDERED;
    }

    int faultOfBorder(int one, int other) {
      if (!parcels.has(one) || !parcels.has(other)) {
        return NO_SUCH;
      }
      if (one == other) {
        return OUT_OF_RANGE;
      }
      return parcels.isPresent(one) && parcels.isPresent(other) ? FINE : HINDERED;
    }

    int faultOfSplit(int parcel, int area, int first) {
      if (!parcels.has(parcel)) {
        return NO_SUCH;
      }
      if (!parcels.isPresent(parcel)) {
        return NOT_PRESENT;
      }
      int greatest = parcels.area[parcel] - Parcels.LEAST_AREA;
      if (!isFrom(area, Parcels.LEAST_AREA, greatest)) {
        return BAD_AREA;
      }
      if ((first & ~parcels.neighbours[parcel]) != 0) {
        return BAD_SET;
      }
      return parcels.count <= Parcels.LIMIT - 2 ? FINE : TOO_MANY;
    }

    int faultOfMerge(int one, int other) {
      if (!parcels.has(one) || !parcels.has(other)) {
        return NO_SUCH;
      }
      if (one == other) {
        return OUT_OF_RANGE;
      }
      if (!parcels.isPresent(one) || !parcels.isPresent(other)) {
        return NOT_PRESENT;
      }
      if (!parcels.areNeighbours(one, other)) {
        return NO_NEIGHBOURS;
      }
      if (holderNow(one) != holderNow(other)) {
        return OTHER_HOLDER;
      }
      if (parcels.area[one] + parcels.area[other] > Parcels.GREATEST_AREA) {
        return BAD_AREA;
      }
      return parcels.count < Parcels.LIMIT ? FINE : TOO_MANY;
    }

    int faultOfDeed(int parcel, int grantor, int grantee, int itsDay) {
      if (!parcels.has(parcel)) {
        return NO_SUCH;
      }
      if (!isPerson(grantor) || !isPerson(grantee)
          || !isFrom(itsDay, parcels.firstDay[parcel], day)) {
        return OUT_OF_RANGE;
      }
      return parcels.isPresent(parcel) && deeds.count < Deeds.LIMIT ? FINE : HINDERED;
    }

    int faultOfEasement(int kind, int on, int serves) {
      if (!parcels.has(on) || !parcels.has(serves)) {
        return NO_SUCH;
      }
      if (!isFrom(kind, 0, KINDS - 1) || on == serves) {
        return OUT_OF_RANGE;
      }
      if (!parcels.isPresent(on) || !parcels.isPresent(serves)) {
        return HINDERED;
      }
      return easements.count < Easements.LIMIT ? FINE : HINDERED;
    }

    int faultOfLien(int parcel, int creditor, int amount) {
      if (!parcels.has(parcel)) {
        return NO_SUCH;
      }
      if (!isPerson(creditor) || !isFrom(amount, 1, GREATEST_AMOUNT)) {
        return OUT_OF_RANGE;
      }
      return parcels.isPresent(parcel) && liens.count < Liens.LIMIT ? FINE : HINDERED;
    }

    int faultOfDays(int days) {
      if (!isFrom(days, 0, MOST_DAYS)) {
        return OUT_OF_RANGE;
      }
      return day + days <= GREATEST_DAY ? FINE : HINDERED;
    }

    /** Splits a parcel for which faultOfSplit is FINE; answers the first part. */
    int divide(int parcel, int area, int toFirst) {
      int holding = holderNow(parcel);
      int toSecond = parcels.neighboursOf(parcel) & ~toFirst;
      int rest = parcels.areaOf(1 << parcel) - area;
      parcels.end(parcel, day);
      int first = parcels.come(area, holding, 1 << parcel, day);
      int second = parcels.come(rest, holding, 1 << parcel, day);
      parcels.link(first, second);
      parcels.linkAll(first, toFirst);
      parcels.linkAll(second, toSecond);
      easements.followSplit(parcel, first, second, day);
      liens.follow(1 << parcel, 1 << first | 1 << second);
      return first;
    }

    /** Merges parcels for which faultOfMerge is FINE; answers the merged one. */
    int unite(int one, int other) {
      int holding = holderNow(one);
      int both = 1 << one | 1 << other;
      int around = (parcels.neighboursOf(one) | parcels.neighboursOf(other)) & ~both;
      parcels.end(one, day);
      parcels.end(other, day);
      int merged = parcels.come(parcels.areaOf(both), holding, both, day);
      parcels.linkAll(merged, around);
      easements.followMerge(one, other, merged, day);
      liens.follow(both, 1 << merged);
      return merged;
    }
  }

  /** The worlds just before the latest changes, in a ring: the oldest gives its place away. */
  private static final class History {
    static final int LIMIT = 6;

    int count = 0;
    private int next = 0;
    private final World[] ring = new World[LIMIT];

    History() {
      for (int place = 0; place < LIMIT; place++) {
        ring[place] = new World();
      }
    }

    void remember(World world) {
      ring[next].copyFrom(world);
      next = next == LIMIT - 1 ? 0 : next + 1;
      count = Math.min(count + 1, LIMIT);
    }

    void takeBack(World world) {
      if (count == 0) {
        return;
      }
      next = next == 0 ? LIMIT - 1 : next - 1;
      count--;
      world.copyFrom(ring[next]);
    }

    void forget() {
      count = 0;
    }
  }

  /** The input, and the commands that were found in it last. */
  private static final class Text {
    static final int LIMIT = 80;
    static final int SPLIT = 0;
    static final int MERGE = 1;
    static final int DEED = 2;
    static final int WAY = 3;
    static final int LIEN = 4;
    static final int DAYS = 5;
    private static final int WORDS = 6;
    // The shortest command, "days 1;", has seven characters, so eleven are the most.
    private static final int MOST_COMMANDS = 12;
    private static final int MOST_NUMBERS = 3;
    private static final int MOST_DIGITS = 4;

    int length = 0;
    int at = 0;
    int commands = 0;
    private final char[] input = new char[LIMIT];
    private final int[] words = new int[MOST_COMMANDS];
    private final int[] numbers = new int[MOST_COMMANDS * MOST_NUMBERS];

    void put(char character) {
      if (length < LIMIT) {
        input[length] = character;
        length++;
      }
    }

    int wordOf(int command) {
      return command >= 0 && command < MOST_COMMANDS ? words[command] : NONE;
    }

    int numberOf(int command, int index) {
      int place = command * MOST_NUMBERS + index;
      return place >= 0 && place < numbers.length ? numbers[place] : 0;
    }

    /** Finds the commands; if the input is no right text, at is the error position then. */
    boolean scan() {
      at = 0;
      commands = 0;
      for (int command = 0; command < MOST_COMMANDS && at < length; command++) {
        if (!scanCommand(command)) {
          return false;
        }
        commands++;
      }
      return commands > 0 && at == length;
    }

    private boolean scanCommand(int command) {
      int word = scanWord();
      if (word == NONE) {
        return false;
      }
      words[command] = word;
      for (int index = 0; index < numbersOf(word); index++) {
        int number = scanSign(' ') ? scanNumber() : NONE;
        if (number == NONE) {
          return false;
        }
        numbers[command * MOST_NUMBERS + index] = number;
      }
      return scanSign(';');
    }

    /** Goes as far as the letters of some word go. */
    private int scanWord() {
      int furthest = 0;
      for (int word = 0; word < WORDS; word++) {
        int letters = lettersOf(lettering(word));
        furthest = Math.max(furthest, letters);
        if (letters == lettering(word).length()) {
          at += letters;
          return word;
        }
      }
      at += furthest;
      return NONE;
    }

    private int lettersOf(String word) {
      for (int letter = 0; letter < word.length(); letter++) {
        if (!isAt(at + letter, word.charAt(letter))) {
          return letter;
        }
      }
      return word.length();
    }

    private boolean isAt(int place, char sign) {
      return place >= 0 && place < length && place < LIMIT && input[place] == sign;
    }

    private boolean scanSign(char sign) {
      if (!isAt(at, sign)) {
        return false;
      }
      at++;
      return true;
    }

    private int scanNumber() {
      int number = NONE;
      for (int digit = 0; digit < MOST_DIGITS && isDigitAt(at); digit++) {
        number = (digit == 0 ? 0 : number * 10) + (input[at] - '0');
        at++;
      }
      return number;
    }

    private boolean isDigitAt(int place) {
      return place >= 0 && place < length && place < LIMIT
          && input[place] >= '0' && input[place] <= '9';
    }

    private static String lettering(int word) {
      switch (word) {
        case SPLIT:
          return "split";
        case MERGE:
          return "merge";
        case DEED:
          return "deed";
        case WAY:
          return "way";
        case LIEN:
          return "lien";
        default:
          return "days";
      }
    }

    private static int numbersOf(int word) {
      switch (word) {
        case DEED:
        case LIEN:
          return 3;
        case DAYS:
          return 1;
        default:
          return 2;
      }
    }
  }
}
