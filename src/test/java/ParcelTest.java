/** Promises 1 to 12: a new object, clear, parcels, splitting, merging, ways, reasons. */
final class ParcelTest {
  private static final Due DUE = new Due();

  public static void main(String[] args) {
    newObject();
    clearing();
    clearLeaves();
    adding();
    bordering();
    splitting();
    splitReasons();
    splitWithoutRoom();
    merging();
    mergeReasons();
    mergeAcrossDays();
    numbersOfParcel();
    holderOfEnded();
    originsAndRemains();
    crossing();
    partnering();
    reasons();
    DUE.finish();
  }

  private static ParcelRegistry withParcels(int many) {
    ParcelRegistry x = new ParcelRegistry();
    for (int k = 0; k < many; k++) {
      x.addParcel(100 + k, 0);
    }
    return x;
  }

  private static void newObject() {
    ParcelRegistry x = new ParcelRegistry();
    for (int k = 0; k <= 10; k++) {
      int account = k;
      DUE.answers("new account " + k, 0, () -> x.account(account));
    }
    DUE.fails("new parcel", Due.INDEX, () -> x.parcel(0, 0));
    DUE.fails("new easement", Due.INDEX, () -> x.easement(0, 0));
    DUE.fails("new lien", Due.INDEX, () -> x.lien(0, 0));
    DUE.fails("new reason", Due.ABSENT, x::reason);
    DUE.fails("new errorPosition", Due.ABSENT, x::errorPosition);
    DUE.fails("new undo", Due.ABSENT, x::undo);
    DUE.fails("new restore", Due.STATE, x::restore);
    DUE.answers("new holdings", 0, () -> x.holdings(0));
    DUE.answers("new append", 1, () -> x.append('a'));
    DUE.answers("second object", 0, () -> new ParcelRegistry().account(0));
  }

  private static void clearing() {
    ParcelRegistry x = withParcels(3);
    x.border(0, 1, true);
    x.addEasement(0, 0, 1);
    x.addLien(0, 1, 10);
    x.deed(0, 0, 1, 0);
    x.split(2, 50, 0);
    x.advance(7);
    DUE.answers("clear counts the ended ones too", 5, x::clear);
    for (int k = 0; k <= 10; k++) {
      int account = k;
      DUE.answers("account " + k + " after clear", 0, () -> x.account(account));
    }
    DUE.fails("parcel after clear", Due.INDEX, () -> x.parcel(0, 0));
    DUE.fails("undo after clear", Due.ABSENT, x::undo);
    DUE.answers("clear again", 0, x::clear);
    DUE.answers("addParcel after clear", 0, () -> x.addParcel(10, 9));
    DUE.answers("its neighbours", 0, () -> x.parcel(0, 3));
    DUE.answers("its deeds", 0, () -> x.parcel(0, 7));
    DUE.answers("its liens", 0, () -> x.parcel(0, 9));
    DUE.answers("its holder", 9, () -> x.parcel(0, 6));
    DUE.answers("only the call after clear is remembered", 0, x::undo);
    DUE.fails("clear is no change", Due.ABSENT, x::undo);
  }

  private static void clearLeaves() {
    ParcelRegistry x = withParcels(2);
    x.save();
    DUE.fails("merge", Due.REFUSED, () -> x.merge(0, 1));
    x.append('x');
    DUE.fails("read", Due.ARGUMENT, x::read);
    x.append('d');
    x.clear();
    DUE.answers("reason after clear", 4, x::reason);
    DUE.answers("errorPosition after clear", 0, x::errorPosition);
    DUE.answers("input after clear", 2, () -> x.append('a'));
    DUE.answers("restore after clear", 2, x::restore);
    DUE.answers("area after restore", 101, () -> x.parcel(1, 0));
  }

  private static void adding() {
    ParcelRegistry x = new ParcelRegistry();
    DUE.fails("area 9", Due.ARGUMENT, () -> x.addParcel(9, 0));
    DUE.fails("area 10000", Due.ARGUMENT, () -> x.addParcel(10000, 0));
    DUE.fails("area least int", Due.ARGUMENT, () -> x.addParcel(Integer.MIN_VALUE, 0));
    DUE.fails("person -1", Due.ARGUMENT, () -> x.addParcel(10, -1));
    DUE.fails("person 10", Due.ARGUMENT, () -> x.addParcel(10, 10));
    DUE.answers("nothing was added", 0, () -> x.account(0));
    DUE.fails("nothing was remembered", Due.ABSENT, x::undo);
    x.advance(12);
    DUE.answers("area 10", 0, () -> x.addParcel(10, 0));
    DUE.answers("area 9999", 1, () -> x.addParcel(9999, 9));
    DUE.answers("first day", 12, () -> x.parcel(1, 1));
    DUE.answers("root", 9, () -> x.parcel(1, 5));
    DUE.answers("no neighbours", 0, () -> x.parcel(1, 3));
    DUE.answers("no parents", 0, () -> x.parcel(1, 4));
    for (int k = 2; k < 24; k++) {
      int number = k;
      DUE.answers("addParcel", number, () -> x.addParcel(50, 1));
    }
    DUE.fails("a 25th parcel", Due.STATE, () -> x.addParcel(50, 1));
    DUE.fails("a 25th parcel out of range", Due.ARGUMENT, () -> x.addParcel(9, 1));
    DUE.answers("24 parcels", 24, () -> x.account(0));
  }

  private static long asNumber(boolean is) {
    return is ? 1 : 0;
  }

  private static void bordering() {
    ParcelRegistry x = withParcels(4);
    DUE.answers("new border", 0, () -> asNumber(x.border(0, 1, true)));
    DUE.answers("border again", 1, () -> asNumber(x.border(1, 0, true)));
    DUE.answers("neighbours of 0", 2, () -> x.parcel(0, 3));
    DUE.answers("neighbours of 1", 1, () -> x.parcel(1, 3));
    DUE.answers("no border any more", 1, () -> asNumber(x.border(1, 0, false)));
    DUE.answers("no border again", 0, () -> asNumber(x.border(0, 1, false)));
    DUE.answers("no neighbours of 0", 0, () -> x.parcel(0, 3));
    DUE.answers("no neighbours of 1", 0, () -> x.parcel(1, 3));
    DUE.fails("border -1", Due.INDEX, () -> asNumber(x.border(-1, 0, true)));
    DUE.fails("border 4", Due.INDEX, () -> asNumber(x.border(0, 4, true)));
    DUE.fails("border 4 twice", Due.INDEX, () -> asNumber(x.border(4, 4, true)));
    DUE.fails("border same", Due.ARGUMENT, () -> asNumber(x.border(2, 2, false)));
    x.split(3, 50, 0);
    DUE.fails("border of an ended one", Due.STATE, () -> asNumber(x.border(3, 0, true)));
    DUE.fails("border to an ended one", Due.STATE, () -> asNumber(x.border(0, 3, false)));
    DUE.fails("border of an ended one to itself", Due.ARGUMENT, () -> asNumber(x.border(3, 3, true)));
    x.border(0, 1, true);
    x.border(0, 1, true);
    DUE.answers("an idle border is a change", 5, x::undo);
    DUE.answers("before it", 2, () -> x.parcel(0, 3));
    x.undo();
    DUE.answers("before the border", 0, () -> x.parcel(0, 3));
  }

  private static void splitting() {
    ParcelRegistry x = withParcels(5);
    x.border(0, 1, true);
    x.border(0, 2, true);
    x.border(0, 3, true);
    x.border(3, 4, true);
    x.advance(3);
    x.deed(0, 0, 6, 2);
    DUE.answers("split", 5, () -> x.split(0, 30, 2 | 8));
    DUE.answers("area of the first", 30, () -> x.parcel(5, 0));
    DUE.answers("area of the second", 70, () -> x.parcel(6, 0));
    DUE.answers("neighbours of the first", 2 | 8 | 64, () -> x.parcel(5, 3));
    DUE.answers("neighbours of the second", 4 | 32, () -> x.parcel(6, 3));
    DUE.answers("neighbours of the ended", 0, () -> x.parcel(0, 3));
    DUE.answers("neighbours of 1", 32, () -> x.parcel(1, 3));
    DUE.answers("neighbours of 2", 64, () -> x.parcel(2, 3));
    DUE.answers("neighbours of 3", 16 | 32, () -> x.parcel(3, 3));
    DUE.answers("last day", 3, () -> x.parcel(0, 2));
    DUE.answers("first day of a part", 3, () -> x.parcel(6, 1));
    DUE.answers("parents of the first", 1, () -> x.parcel(5, 4));
    DUE.answers("parents of the second", 1, () -> x.parcel(6, 4));
    DUE.answers("root of the first", 6, () -> x.parcel(5, 5));
    DUE.answers("root of the second", 6, () -> x.parcel(6, 5));
    DUE.answers("deeds of a part", 0, () -> x.parcel(5, 7));
    DUE.answers("deeds of the ended", 1, () -> x.parcel(0, 7));
    DUE.answers("present ones", 6, () -> x.account(1));
  }

  private static void splitReasons() {
    ParcelRegistry x = withParcels(3);
    x.border(0, 1, true);
    DUE.fails("split -1", Due.INDEX, () -> x.split(-1, 50, 0));
    DUE.fails("split 3", Due.INDEX, () -> x.split(3, 50, 0));
    DUE.fails("no reason is kept", Due.ABSENT, x::reason);
    int[] areas = {9, 0, -5, 91, 100, 101, Integer.MIN_VALUE, Integer.MAX_VALUE};
    for (int area : areas) {
      DUE.fails("split off " + area, Due.REFUSED, () -> x.split(0, area, 4));
      DUE.answers("reason for " + area, 2, x::reason);
    }
    int[] sets = {1, 4, 2 | 4, 8, 1 << 24, 1 << 31, -1};
    for (int set : sets) {
      DUE.fails("split with the set " + set, Due.REFUSED, () -> x.split(0, 50, set));
      DUE.answers("reason for the set " + set, 3, x::reason);
    }
    DUE.answers("nothing is different", 3, () -> x.account(0));
    DUE.answers("split off 10", 3, () -> x.split(0, 10, 2));
    DUE.fails("split the ended", Due.REFUSED, () -> x.split(0, 5, -1));
    DUE.answers("reason for the ended", 1, x::reason);
    DUE.answers("split off 81 of 90", 90, () -> x.parcel(4, 0));
    DUE.fails("split off 81", Due.REFUSED, () -> x.split(4, 81, 0));
    DUE.answers("split off 80", 5, () -> x.split(4, 80, 0));
    DUE.answers("changes remembered", 5, x::undo);
  }

  private static void splitWithoutRoom() {
    ParcelRegistry x = withParcels(22);
    DUE.answers("split with 22", 22, () -> x.split(0, 50, 0));
    DUE.fails("split with 24", Due.REFUSED, () -> x.split(1, 50, 0));
    DUE.answers("reason", 6, x::reason);
    DUE.fails("split with 24 and a wrong set", Due.REFUSED, () -> x.split(1, 50, 1));
    DUE.answers("reason 3 comes ahead of 6", 3, x::reason);
    x.undo();
    x.addParcel(20, 0);
    DUE.fails("split with 23", Due.REFUSED, () -> x.split(1, 50, 0));
    DUE.answers("reason with 23", 6, x::reason);
    x.border(1, 2, true);
    DUE.answers("merge with 23", 23, () -> x.merge(1, 2));
    x.border(3, 4, true);
    DUE.fails("merge with 24", Due.REFUSED, () -> x.merge(3, 4));
    DUE.answers("reason for the merge", 6, x::reason);
  }

  private static void merging() {
    ParcelRegistry x = withParcels(6);
    x.border(0, 1, true);
    x.border(0, 2, true);
    x.border(1, 2, true);
    x.border(1, 3, true);
    x.border(3, 4, true);
    x.advance(4);
    DUE.answers("merge", 6, () -> x.merge(1, 0));
    DUE.answers("area", 201, () -> x.parcel(6, 0));
    DUE.answers("neighbours", 4 | 8, () -> x.parcel(6, 3));
    DUE.answers("neighbours of 2", 64, () -> x.parcel(2, 3));
    DUE.answers("neighbours of 3", 16 | 64, () -> x.parcel(3, 3));
    DUE.answers("neighbours of 0", 0, () -> x.parcel(0, 3));
    DUE.answers("neighbours of 1", 0, () -> x.parcel(1, 3));
    DUE.answers("parents", 3, () -> x.parcel(6, 4));
    DUE.answers("first day", 4, () -> x.parcel(6, 1));
    DUE.answers("last day of 0", 4, () -> x.parcel(0, 2));
    DUE.answers("last day of 1", 4, () -> x.parcel(1, 2));
    DUE.answers("still present", -1, () -> x.parcel(6, 2));
    DUE.answers("root", 0, () -> x.parcel(6, 5));
    DUE.answers("pairs of neighbours", 3, () -> x.account(10));
  }

  private static void mergeReasons() {
    ParcelRegistry x = new ParcelRegistry();
    x.addParcel(9000, 0);
    x.addParcel(1000, 1);
    x.addParcel(999, 1);
    x.addParcel(40, 2);
    x.border(0, 1, true);
    DUE.fails("merge with -1", Due.INDEX, () -> x.merge(0, -1));
    DUE.fails("merge of 4", Due.INDEX, () -> x.merge(4, 4));
    DUE.fails("merge with itself", Due.ARGUMENT, () -> x.merge(2, 2));
    DUE.fails("no reason is kept", Due.ABSENT, x::reason);
    DUE.fails("merge of other holders and too large", Due.REFUSED, () -> x.merge(0, 1));
    DUE.answers("reason 5 comes ahead of 2", 5, x::reason);
    DUE.fails("merge of no neighbours", Due.REFUSED, () -> x.merge(0, 2));
    DUE.answers("reason 4 comes ahead of 5", 4, x::reason);
    x.deed(0, 0, 1, 0);
    DUE.fails("merge too large", Due.REFUSED, () -> x.merge(1, 0));
    DUE.answers("reason 2", 2, x::reason);
    x.border(0, 2, true);
    x.split(3, 20, 0);
    DUE.fails("merge of an ended one", Due.REFUSED, () -> x.merge(3, 0));
    DUE.answers("reason 1 comes ahead of 4", 1, x::reason);
    DUE.fails("merge with an ended one", Due.REFUSED, () -> x.merge(0, 3));
    DUE.fails("merge of an ended one with itself", Due.ARGUMENT, () -> x.merge(3, 3));
    DUE.answers("merge just not too large", 6, () -> x.merge(0, 2));
    DUE.answers("its area", 9999, () -> x.parcel(6, 0));
    DUE.answers("its root", 1, () -> x.parcel(6, 5));
  }

  private static void mergeAcrossDays() {
    ParcelRegistry x = withParcels(2);
    x.border(0, 1, true);
    x.deed(0, 0, 5, 0);
    DUE.fails("merge after a deed", Due.REFUSED, () -> x.merge(0, 1));
    DUE.answers("reason", 5, x::reason);
    x.deed(1, 3, 5, 0);
    DUE.fails("merge after a gap", Due.REFUSED, () -> x.merge(0, 1));
    x.deed(1, 0, 5, 0);
    DUE.answers("merge after a deed for each", 2, () -> x.merge(0, 1));
    DUE.answers("root", 5, () -> x.parcel(2, 5));
  }

  private static void numbersOfParcel() {
    ParcelRegistry x = withParcels(2);
    x.border(0, 1, true);
    x.advance(2);
    x.deed(0, 0, 3, 1);
    x.deed(0, 0, 4, 1);
    x.deed(0, 3, 5, 2);
    x.addLien(1, 0, 5);
    x.addLien(0, 0, 6);
    x.addLien(0, 0, 7);
    int[] due = {100, 0, -1, 2, 0, 0, 5, 3, 1, 6};
    for (int k = 0; k <= 9; k++) {
      int what = k;
      DUE.answers("parcel number " + k, due[k], () -> x.parcel(0, what));
    }
    x.release(1);
    DUE.answers("liens without the released", 4, () -> x.parcel(0, 9));
    DUE.fails("parcel what -1", Due.ARGUMENT, () -> x.parcel(0, -1));
    DUE.fails("parcel what 10", Due.ARGUMENT, () -> x.parcel(0, 10));
    DUE.fails("parcel 2", Due.INDEX, () -> x.parcel(2, 10));
    DUE.fails("parcel -1", Due.INDEX, () -> x.parcel(-1, 0));
  }

  private static void holderOfEnded() {
    ParcelRegistry x = withParcels(1);
    x.deed(0, 0, 7, 0);
    x.split(0, 50, 0);
    DUE.answers("holder of one that ended on its first day", 7, () -> x.parcel(0, 6));
    DUE.fails("it has none at any day", Due.ABSENT, () -> x.holder(0, 0));
    DUE.answers("deeds of the ended", 1, () -> x.parcel(0, 7));
    DUE.answers("no lien on the ended", 0, () -> x.parcel(0, 9));
    x.advance(5);
    DUE.answers("last day", 0, () -> x.parcel(0, 2));
    DUE.answers("root of the ended", 0, () -> x.parcel(0, 5));
    DUE.answers("area of the ended", 100, () -> x.parcel(0, 0));
  }

  private static void originsAndRemains() {
    ParcelRegistry x = withParcels(3);
    x.border(0, 1, true);
    x.split(0, 50, 2);
    x.merge(3, 1);
    x.split(5, 60, 0);
    DUE.answers("origins of an added one", 0, () -> x.origins(1));
    DUE.answers("origins of a part", 1, () -> x.origins(4));
    DUE.answers("origins of a merged one", 1 | 2 | 8, () -> x.origins(5));
    DUE.answers("origins of its part", 1 | 2 | 8 | 32, () -> x.origins(7));
    DUE.answers("origins of one apart", 0, () -> x.origins(2));
    DUE.answers("remains of 0", 16 | 64 | 128, () -> x.remains(0));
    DUE.answers("remains of 1", 64 | 128, () -> x.remains(1));
    DUE.answers("remains of a present one", 4, () -> x.remains(2));
    DUE.answers("remains of a part", 16, () -> x.remains(4));
    DUE.answers("remains of 5", 64 | 128, () -> x.remains(5));
    DUE.fails("origins -1", Due.INDEX, () -> x.origins(-1));
    DUE.fails("origins 8", Due.INDEX, () -> x.origins(8));
    DUE.fails("remains -1", Due.INDEX, () -> x.remains(-1));
    DUE.fails("remains 8", Due.INDEX, () -> x.remains(8));
  }

  private static void crossing() {
    ParcelRegistry x = withParcels(24);
    for (int k = 0; k < 22; k++) {
      x.border(k, k + 1, true);
    }
    DUE.answers("to itself", 0, () -> x.borders(5, 5));
    DUE.answers("to a neighbour", 1, () -> x.borders(5, 4));
    DUE.answers("along all", 22, () -> x.borders(0, 22));
    DUE.answers("back", 22, () -> x.borders(22, 0));
    DUE.fails("no way", Due.ABSENT, () -> x.borders(0, 23));
    x.border(22, 23, true);
    DUE.answers("the longest way of all", 23, () -> x.borders(0, 23));
    x.border(3, 20, true);
    DUE.answers("a shorter way", 7, () -> x.borders(0, 23));
    x.border(3, 20, false);
    x.border(9, 10, false);
    DUE.fails("a way that is cut", Due.ABSENT, () -> x.borders(0, 22));
    DUE.fails("borders -1", Due.INDEX, () -> x.borders(-1, 0));
    DUE.fails("borders 24", Due.INDEX, () -> x.borders(0, 24));
    ParcelRegistry y = withParcels(3);
    y.border(0, 1, true);
    y.border(1, 2, true);
    y.split(1, 50, 1);
    DUE.answers("over both parts", 3, () -> y.borders(0, 2));
    DUE.fails("from an ended one", Due.STATE, () -> y.borders(1, 0));
    DUE.fails("to an ended one", Due.STATE, () -> y.borders(0, 1));
    DUE.fails("an ended one to itself", Due.STATE, () -> y.borders(1, 1));
    DUE.fails("an ended one and none", Due.INDEX, () -> y.borders(1, 5));
  }

  private static void partnering() {
    ParcelRegistry x = new ParcelRegistry();
    x.addParcel(9000, 0);
    x.addParcel(999, 0);
    x.addParcel(1000, 0);
    x.addParcel(50, 1);
    x.addParcel(60, 0);
    for (int k = 1; k <= 3; k++) {
      x.border(0, k, true);
    }
    DUE.answers("partners of 0", 2, () -> x.partners(0));
    DUE.answers("partners of 1", 1, () -> x.partners(1));
    DUE.answers("partners of 2", 0, () -> x.partners(2));
    DUE.answers("partners of 3", 0, () -> x.partners(3));
    DUE.fails("no reason is kept", Due.ABSENT, x::reason);
    x.split(4, 30, 0);
    DUE.answers("partners of an ended one", 0, () -> x.partners(4));
    DUE.answers("partners of a part", 64, () -> x.partners(5));
    DUE.fails("partners -1", Due.INDEX, () -> x.partners(-1));
    DUE.fails("partners 7", Due.INDEX, () -> x.partners(7));
    for (int k = 7; k < 24; k++) {
      x.addParcel(10, 4);
    }
    DUE.answers("partners without room", 0, () -> x.partners(0));
  }

  private static void reasons() {
    ParcelRegistry x = withParcels(2);
    DUE.fails("merge", Due.REFUSED, () -> x.merge(0, 1));
    DUE.answers("reason", 4, x::reason);
    DUE.answers("reason stays", 4, x::reason);
    x.split(0, 50, 0);
    DUE.answers("reason stays behind a split", 4, x::reason);
    DUE.fails("split", Due.REFUSED, () -> x.split(0, 50, 0));
    DUE.answers("the last reason", 1, x::reason);
    x.undo();
    DUE.answers("reason stays behind undo", 1, x::reason);
    DUE.fails("a split of none", Due.INDEX, () -> x.split(9, 50, 0));
    DUE.answers("reason stays behind another exception", 1, x::reason);
  }
}
