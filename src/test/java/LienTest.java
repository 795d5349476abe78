/** Promises 24 to 31: liens, their ranking, and payments from a price. */
final class LienTest {
  private static final Due DUE = new Due();

  public static void main(String[] args) {
    adding();
    releasing();
    postponing();
    numbersOfLiens();
    following();
    placesOnParcel();
    paying();
    leaving();
    needing();
    DUE.finish();
  }

  private static ParcelRegistry withParcels(int many) {
    ParcelRegistry x = new ParcelRegistry();
    for (int k = 0; k < many; k++) {
      x.addParcel(100, 0);
    }
    return x;
  }

  private static ParcelRegistry withLiens(int... amounts) {
    ParcelRegistry x = withParcels(2);
    for (int amount : amounts) {
      x.addLien(0, 1, amount);
    }
    return x;
  }

  private static void adding() {
    ParcelRegistry x = withParcels(2);
    DUE.answers("amount 1", 0, () -> x.addLien(0, 0, 1));
    DUE.answers("amount 9999", 1, () -> x.addLien(1, 9, 9999));
    DUE.fails("lien on -1", Due.INDEX, () -> x.addLien(-1, 99, 1));
    DUE.fails("lien on 2", Due.INDEX, () -> x.addLien(2, 0, 1));
    DUE.fails("creditor -1", Due.ARGUMENT, () -> x.addLien(0, -1, 1));
    DUE.fails("creditor 10", Due.ARGUMENT, () -> x.addLien(0, 10, 1));
    DUE.fails("amount 0", Due.ARGUMENT, () -> x.addLien(0, 0, 0));
    DUE.fails("amount 10000", Due.ARGUMENT, () -> x.addLien(0, 0, 10000));
    x.split(1, 50, 0);
    DUE.fails("lien on an ended one", Due.STATE, () -> x.addLien(1, 0, 1));
    DUE.fails("lien on an ended one, of 0", Due.ARGUMENT, () -> x.addLien(1, 0, 0));
    for (int k = 2; k < 20; k++) {
      int number = k;
      DUE.answers("addLien", number, () -> x.addLien(0, 3, 10));
    }
    DUE.fails("a 21st lien", Due.STATE, () -> x.addLien(0, 0, 1));
    x.release(7);
    DUE.fails("the released one counts", Due.STATE, () -> x.addLien(0, 0, 1));
    DUE.fails("a 21st lien of 0", Due.ARGUMENT, () -> x.addLien(0, 0, 0));
    DUE.answers("liens that count", 19, () -> x.account(7));
  }

  private static void ranking(ParcelRegistry x, int... places) {
    for (int k = 0; k < places.length; k++) {
      int lien = k;
      DUE.answers("place of " + k, places[k], () -> x.lien(lien, 3));
    }
  }

  private static void releasing() {
    ParcelRegistry x = withLiens(10, 20, 30, 40);
    DUE.answers("release", 1, () -> x.release(1));
    ranking(x, 0, -1, 1, 2);
    DUE.fails("release again", Due.STATE, () -> x.release(1));
    DUE.answers("release the last", 2, () -> x.release(3));
    ranking(x, 0, -1, 1, -1);
    DUE.fails("release -1", Due.INDEX, () -> x.release(-1));
    DUE.fails("release 4", Due.INDEX, () -> x.release(4));
    DUE.answers("a new one is the last", 4, () -> x.addLien(1, 2, 3));
    ranking(x, 0, -1, 1, -1, 2);
    x.undo();
    x.undo();
    ranking(x, 0, -1, 1, 2);
    DUE.answers("release the first", 0, () -> x.release(0));
    ranking(x, -1, -1, 0, 1);
  }

  private static void postponing() {
    ParcelRegistry x = withLiens(10, 20, 30, 40, 50);
    DUE.answers("postpone behind the next", 1, () -> x.postpone(0, 1));
    ranking(x, 1, 0, 2, 3, 4);
    DUE.answers("postpone behind the last", 4, () -> x.postpone(1, 4));
    ranking(x, 0, 4, 1, 2, 3);
    DUE.answers("postpone into the middle", 3, () -> x.postpone(2, 4));
    ranking(x, 0, 4, 3, 1, 2);
    DUE.fails("behind itself", Due.STATE, () -> x.postpone(2, 2));
    DUE.fails("behind one ahead", Due.STATE, () -> x.postpone(2, 0));
    DUE.fails("postpone -1", Due.INDEX, () -> x.postpone(-1, 0));
    DUE.fails("behind 5", Due.INDEX, () -> x.postpone(0, 5));
    ranking(x, 0, 4, 3, 1, 2);
    x.release(3);
    DUE.fails("a released one", Due.STATE, () -> x.postpone(3, 1));
    DUE.fails("behind a released one", Due.STATE, () -> x.postpone(0, 3));
    DUE.fails("a released one behind itself", Due.STATE, () -> x.postpone(3, 3));
    ranking(x, 0, 3, 2, -1, 1);
  }

  private static void numbersOfLiens() {
    ParcelRegistry x = withParcels(3);
    x.addLien(2, 5, 600);
    x.addLien(1, 6, 700);
    int[] due = {6, 700, 2, 1};
    for (int k = 0; k <= 3; k++) {
      int what = k;
      DUE.answers("lien number " + k, due[k], () -> x.lien(1, what));
    }
    DUE.fails("what -1", Due.ARGUMENT, () -> x.lien(0, -1));
    DUE.fails("what 4", Due.ARGUMENT, () -> x.lien(0, 4));
    DUE.fails("lien -1", Due.INDEX, () -> x.lien(-1, 9));
    DUE.fails("lien 2", Due.INDEX, () -> x.lien(2, 0));
  }

  private static void following() {
    ParcelRegistry x = withParcels(3);
    x.border(0, 1, true);
    x.addLien(0, 1, 10);
    x.addLien(1, 1, 20);
    x.addLien(0, 1, 30);
    x.addLien(2, 1, 40);
    x.release(2);
    x.split(0, 50, 2);
    DUE.answers("on both parts", 8 | 16, () -> x.lien(0, 2));
    DUE.answers("not on it", 2, () -> x.lien(1, 2));
    DUE.answers("a released one stays", 1, () -> x.lien(2, 2));
    DUE.answers("elsewhere", 4, () -> x.lien(3, 2));
    DUE.answers("liens on a part", 1, () -> x.parcel(4, 9));
    DUE.answers("liens on the ended", 0, () -> x.parcel(0, 9));
    x.merge(3, 1);
    DUE.answers("on the merged and the other part", 16 | 32, () -> x.lien(0, 2));
    DUE.answers("on the merged", 32, () -> x.lien(1, 2));
    DUE.answers("liens on the merged", 3, () -> x.parcel(5, 9));
    x.border(4, 5, true);
    x.merge(4, 5);
    DUE.answers("once on the merged of both", 64, () -> x.lien(0, 2));
    ranking(x, 0, 1, -1, 2);
  }

  private static void placesOnParcel() {
    ParcelRegistry x = withParcels(2);
    x.addLien(0, 1, 10);
    x.addLien(1, 1, 20);
    x.addLien(0, 1, 30);
    x.addLien(0, 1, 40);
    x.postpone(0, 3);
    DUE.answers("first on 0", 2, () -> x.lienAt(0, 0));
    DUE.answers("second on 0", 3, () -> x.lienAt(0, 1));
    DUE.answers("third on 0", 0, () -> x.lienAt(0, 2));
    DUE.fails("fourth on 0", Due.ABSENT, () -> x.lienAt(0, 3));
    DUE.fails("place -1", Due.ABSENT, () -> x.lienAt(0, -1));
    DUE.answers("first on 1", 1, () -> x.lienAt(1, 0));
    DUE.fails("second on 1", Due.ABSENT, () -> x.lienAt(1, 1));
    x.release(2);
    DUE.answers("first on 0 then", 3, () -> x.lienAt(0, 0));
    DUE.fails("lienAt -1", Due.INDEX, () -> x.lienAt(-1, 0));
    DUE.fails("lienAt 2", Due.INDEX, () -> x.lienAt(2, -1));
    x.split(1, 50, 0);
    DUE.fails("on an ended one", Due.ABSENT, () -> x.lienAt(1, 0));
    DUE.answers("on a part", 1, () -> x.lienAt(3, 0));
  }

  private static ParcelRegistry forPayment() {
    ParcelRegistry x = withParcels(2);
    x.addLien(0, 1, 100);
    x.addLien(1, 2, 500);
    x.addLien(0, 2, 200);
    x.addLien(0, 1, 300);
    return x;
  }

  private static void paying() {
    ParcelRegistry x = forPayment();
    DUE.answers("of price 0", 0, () -> x.paid(0, 0, 1));
    DUE.answers("in part", 60, () -> x.paid(0, 60, 1));
    DUE.answers("nothing for the second", 0, () -> x.paid(0, 100, 2));
    DUE.answers("the second in part", 150, () -> x.paid(0, 250, 2));
    DUE.answers("the first again in part", 150, () -> x.paid(0, 350, 1));
    DUE.answers("both of the first", 400, () -> x.paid(0, 1000000, 1));
    DUE.answers("no more than due", 200, () -> x.paid(0, 1000000, 2));
    DUE.answers("none for another", 0, () -> x.paid(0, 1000, 3));
    DUE.answers("nothing changes", 400, () -> x.paid(0, 700, 1));
    x.postpone(0, 2);
    DUE.answers("postponed", 50, () -> x.paid(0, 250, 1));
    x.release(2);
    DUE.answers("behind a release", 250, () -> x.paid(0, 250, 1));
    DUE.fails("paid -1", Due.INDEX, () -> x.paid(-1, -1, 0));
    DUE.fails("paid 2", Due.INDEX, () -> x.paid(2, 0, 0));
    DUE.fails("paid to -1", Due.INDEX, () -> x.paid(0, -1, -1));
    DUE.fails("paid to 10", Due.INDEX, () -> x.paid(0, 0, 10));
    DUE.fails("price -1", Due.ARGUMENT, () -> x.paid(0, -1, 0));
    DUE.fails("price 1000001", Due.ARGUMENT, () -> x.paid(0, 1000001, 0));
    x.split(0, 50, 0);
    DUE.fails("an ended one", Due.STATE, () -> x.paid(0, 0, 0));
    DUE.fails("an ended one for -1", Due.ARGUMENT, () -> x.paid(0, -1, 0));
    DUE.answers("a part pays in full", 400, () -> x.paid(3, 400, 1));
  }

  private static void leaving() {
    ParcelRegistry x = forPayment();
    DUE.answers("of price 0", 0, () -> x.left(0, 0));
    DUE.answers("of all that is due", 0, () -> x.left(0, 600));
    DUE.answers("of less", 0, () -> x.left(0, 599));
    DUE.answers("of more", 1, () -> x.left(0, 601));
    DUE.answers("of the greatest price", 999500, () -> x.left(1, 1000000));
    x.release(0);
    DUE.answers("behind a release", 100, () -> x.left(0, 600));
    DUE.fails("left -1", Due.INDEX, () -> x.left(-1, -1));
    DUE.fails("left 2", Due.INDEX, () -> x.left(2, 0));
    DUE.fails("price -1", Due.ARGUMENT, () -> x.left(0, -1));
    DUE.fails("price 1000001", Due.ARGUMENT, () -> x.left(0, 1000001));
    x.split(1, 50, 0);
    DUE.fails("an ended one", Due.STATE, () -> x.left(1, 0));
    DUE.fails("an ended one for too much", Due.ARGUMENT, () -> x.left(1, 1000001));
    DUE.answers("a part without liens", 0, () -> x.left(2, 500));
  }

  private static void needing() {
    ParcelRegistry x = forPayment();
    DUE.answers("the first", 100, () -> x.needed(0, 0));
    DUE.answers("the second on 0", 300, () -> x.needed(2, 0));
    DUE.answers("the third on 0", 600, () -> x.needed(3, 0));
    DUE.answers("the first on 1", 500, () -> x.needed(1, 1));
    DUE.fails("not on it", Due.ABSENT, () -> x.needed(1, 0));
    DUE.fails("lien -1", Due.INDEX, () -> x.needed(-1, 0));
    DUE.fails("lien 4", Due.INDEX, () -> x.needed(4, 0));
    DUE.fails("parcel -1", Due.INDEX, () -> x.needed(0, -1));
    DUE.fails("parcel 2", Due.INDEX, () -> x.needed(0, 2));
    x.postpone(0, 3);
    DUE.answers("postponed", 600, () -> x.needed(0, 0));
    x.release(2);
    DUE.answers("behind a release", 400, () -> x.needed(0, 0));
    DUE.fails("the released one", Due.ABSENT, () -> x.needed(2, 0));
    x.split(1, 50, 0);
    DUE.fails("on an ended one", Due.ABSENT, () -> x.needed(1, 1));
    DUE.answers("on a part", 500, () -> x.needed(1, 3));
  }
}
