/** Promises 19 to 23: easements, how they follow parcels, and what can be reached by them. */
final class EasementTest {
  private static final Due DUE = new Due();

  public static void main(String[] args) {
    adding();
    ending();
    numbersOfEasements();
    setsOfParcel();
    followingSplits();
    splittingWithoutRoom();
    followingMerges();
    endingBySelfService();
    endingOfCopies();
    endingOfTwins();
    endedOnesStay();
    reaching();
    DUE.finish();
  }

  private static ParcelRegistry withParcels(int many) {
    ParcelRegistry x = new ParcelRegistry();
    for (int k = 0; k < many; k++) {
      x.addParcel(100, 0);
    }
    return x;
  }

  private static void adding() {
    ParcelRegistry x = withParcels(3);
    DUE.answers("addEasement", 0, () -> x.addEasement(3, 0, 1));
    DUE.answers("the same again", 1, () -> x.addEasement(3, 0, 1));
    DUE.fails("on -1", Due.INDEX, () -> x.addEasement(9, -1, 1));
    DUE.fails("for 3", Due.INDEX, () -> x.addEasement(0, 0, 3));
    DUE.fails("on and for 3", Due.INDEX, () -> x.addEasement(0, 3, 3));
    DUE.fails("kind -1", Due.ARGUMENT, () -> x.addEasement(-1, 0, 1));
    DUE.fails("kind 4", Due.ARGUMENT, () -> x.addEasement(4, 0, 1));
    DUE.fails("on and for the same", Due.ARGUMENT, () -> x.addEasement(0, 1, 1));
    x.split(2, 50, 0);
    DUE.fails("on an ended one", Due.STATE, () -> x.addEasement(0, 2, 1));
    DUE.fails("for an ended one", Due.STATE, () -> x.addEasement(0, 1, 2));
    DUE.fails("on an ended one, of a wrong kind", Due.ARGUMENT, () -> x.addEasement(4, 2, 1));
    for (int k = 2; k < 30; k++) {
      int number = k;
      DUE.answers("addEasement", number, () -> x.addEasement(0, 0, 1));
    }
    DUE.fails("a 31st easement", Due.STATE, () -> x.addEasement(0, 0, 1));
    x.endEasement(5);
    DUE.fails("the ended one counts", Due.STATE, () -> x.addEasement(0, 0, 1));
    DUE.fails("a 31st of a wrong kind", Due.ARGUMENT, () -> x.addEasement(4, 0, 1));
    DUE.answers("all thirty but one", 0x3fffffff & ~32, () -> x.easements(0, true));
  }

  private static void ending() {
    ParcelRegistry x = withParcels(2);
    x.addEasement(0, 0, 1);
    x.addEasement(1, 0, 1);
    x.advance(6);
    DUE.answers("endEasement", 1, () -> x.endEasement(0));
    DUE.answers("its last day", 6, () -> x.easement(0, 4));
    DUE.fails("end it again", Due.STATE, () -> x.endEasement(0));
    DUE.fails("endEasement -1", Due.INDEX, () -> x.endEasement(-1));
    DUE.fails("endEasement 2", Due.INDEX, () -> x.endEasement(2));
    DUE.answers("the last one", 0, () -> x.endEasement(1));
    x.undo();
    DUE.answers("undone", 1, () -> x.account(6));
  }

  private static void numbersOfEasements() {
    ParcelRegistry x = withParcels(3);
    x.advance(5);
    x.addEasement(2, 1, 0);
    int[] due = {2, 1, 0, 5, -1};
    for (int k = 0; k <= 4; k++) {
      int what = k;
      DUE.answers("easement number " + k, due[k], () -> x.easement(0, what));
    }
    DUE.fails("what -1", Due.ARGUMENT, () -> x.easement(0, -1));
    DUE.fails("what 5", Due.ARGUMENT, () -> x.easement(0, 5));
    DUE.fails("easement -1", Due.INDEX, () -> x.easement(-1, 9));
    DUE.fails("easement 1", Due.INDEX, () -> x.easement(1, 0));
  }

  private static void setsOfParcel() {
    ParcelRegistry x = withParcels(3);
    x.addEasement(0, 0, 1);
    x.addEasement(1, 1, 0);
    x.addEasement(2, 0, 2);
    x.addEasement(3, 2, 1);
    x.addEasement(0, 0, 1);
    DUE.answers("on 0", 1 | 4 | 16, () -> x.easements(0, true));
    DUE.answers("for 0", 2, () -> x.easements(0, false));
    DUE.answers("for 1", 1 | 8 | 16, () -> x.easements(1, false));
    x.endEasement(0);
    DUE.answers("on 0 without the ended", 4 | 16, () -> x.easements(0, true));
    DUE.answers("for 1 without the ended", 8 | 16, () -> x.easements(1, false));
    DUE.fails("easements -1", Due.INDEX, () -> x.easements(-1, true));
    DUE.fails("easements 3", Due.INDEX, () -> x.easements(3, false));
  }

  private static void easementIs(ParcelRegistry x, int number, int... due) {
    for (int k = 0; k < due.length; k++) {
      int what = k;
      DUE.answers("easement " + number + ", " + k, due[k], () -> x.easement(number, what));
    }
  }

  private static void followingSplits() {
    ParcelRegistry x = withParcels(4);
    x.advance(1);
    x.addEasement(0, 0, 1);
    x.addEasement(1, 2, 3);
    x.addEasement(2, 1, 0);
    x.addEasement(3, 0, 2);
    x.endEasement(3);
    x.advance(4);
    x.split(0, 40, 0);
    easementIs(x, 0, 0, 4, 1, 1, -1);
    easementIs(x, 1, 1, 2, 3, 1, -1);
    easementIs(x, 2, 2, 1, 4, 1, -1);
    easementIs(x, 3, 3, 0, 2, 1, 1);
    easementIs(x, 4, 0, 5, 1, 5, -1);
    easementIs(x, 5, 2, 1, 5, 5, -1);
    DUE.fails("no more copies", Due.INDEX, () -> x.easement(6, 0));
    DUE.answers("none on the ended", 0, () -> x.easements(0, true));
    DUE.answers("none for the ended", 0, () -> x.easements(0, false));
    x.undo();
    easementIs(x, 0, 0, 0, 1, 1, -1);
    DUE.fails("no copies before", Due.INDEX, () -> x.easement(4, 0));
  }

  private static void splittingWithoutRoom() {
    ParcelRegistry x = withParcels(3);
    for (int k = 0; k < 28; k++) {
      x.addEasement(k % 4, 0, 1);
    }
    DUE.answers("split", 3, () -> x.split(0, 50, 0));
    easementIs(x, 28, 0, 4, 1);
    easementIs(x, 29, 1, 4, 1);
    DUE.answers("all stay with the first part", 0xfffffff, () -> x.easements(3, true));
    DUE.answers("two copies", 3 << 28, () -> x.easements(4, true));
    DUE.answers("split again without any", 5, () -> x.split(1, 50, 0));
    DUE.answers("for the first part", 0x3fffffff, () -> x.easements(5, false));
    DUE.answers("for the second part", 0, () -> x.easements(6, false));
  }

  private static void followingMerges() {
    ParcelRegistry x = withParcels(4);
    x.border(0, 1, true);
    x.addEasement(0, 0, 2);
    x.addEasement(1, 2, 1);
    x.addEasement(2, 2, 3);
    x.advance(9);
    x.merge(0, 1);
    easementIs(x, 0, 0, 4, 2, 0, -1);
    easementIs(x, 1, 1, 2, 4, 0, -1);
    easementIs(x, 2, 2, 2, 3, 0, -1);
    DUE.answers("live ones", 3, () -> x.account(6));
  }

  private static void endingBySelfService() {
    ParcelRegistry x = withParcels(3);
    x.border(0, 1, true);
    x.addEasement(0, 0, 1);
    x.addEasement(1, 1, 0);
    x.addEasement(1, 1, 2);
    x.advance(9);
    x.merge(1, 0);
    DUE.answers("live ones", 1, () -> x.account(6));
    DUE.answers("last day of one", 9, () -> x.easement(0, 4));
    DUE.answers("last day of the other", 9, () -> x.easement(1, 4));
    easementIs(x, 0, 0, 3, 3, 0, 9);
    easementIs(x, 1, 1, 3, 3, 0, 9);
    easementIs(x, 2, 1, 3, 2, 0, -1);
    DUE.answers("on the merged", 4, () -> x.easements(3, true));
    DUE.answers("for the merged", 0, () -> x.easements(3, false));
    x.undo();
    easementIs(x, 0, 0, 0, 1, 0, -1);
    easementIs(x, 1, 1, 1, 0, 0, -1);
  }

  private static void endingOfCopies() {
    ParcelRegistry x = withParcels(3);
    x.border(1, 2, true);
    x.addEasement(0, 0, 1);
    x.addEasement(0, 2, 1);
    x.advance(4);
    x.split(1, 35, 0);
    x.advance(3);
    DUE.answers("merge a part and the parcel of its copy", 5, () -> x.merge(4, 2));
    easementIs(x, 0, 0, 0, 3, 0, -1);
    easementIs(x, 1, 0, 5, 3, 0, -1);
    easementIs(x, 2, 0, 0, 5, 4, -1);
    easementIs(x, 3, 0, 5, 5, 4, 7);
    DUE.answers("the ended one is on nothing live", 2, () -> x.easements(5, true));
    x.addParcel(50, 0);
    x.border(5, 6, true);
    DUE.answers("merge again", 7, () -> x.merge(5, 6));
    easementIs(x, 1, 0, 7, 3, 0, -1);
    easementIs(x, 3, 0, 5, 5, 4, 7);
  }

  private static void endingOfTwins() {
    ParcelRegistry x = withParcels(6);
    x.border(0, 1, true);
    x.addEasement(0, 4, 5);
    x.addEasement(0, 4, 5);
    x.addEasement(2, 1, 3);
    x.addEasement(2, 0, 3);
    x.addEasement(1, 0, 3);
    x.addEasement(2, 3, 0);
    x.addEasement(2, 3, 1);
    x.addEasement(2, 3, 1);
    x.addEasement(2, 1, 3);
    x.advance(2);
    x.merge(0, 1);
    DUE.answers("twins elsewhere stay", 3, () -> x.easements(4, true));
    DUE.answers("on the merged", 4 | 16, () -> x.easements(6, true));
    DUE.answers("for the merged", 32, () -> x.easements(6, false));
    DUE.answers("last day of a twin", 2, () -> x.easement(3, 4));
    easementIs(x, 3, 2, 6, 3, 0, 2);
    easementIs(x, 6, 2, 3, 6, 0, 2);
    DUE.answers("the lowest stays", -1, () -> x.easement(2, 4));
    DUE.answers("live ones", 5, () -> x.account(6));
  }

  private static void endedOnesStay() {
    ParcelRegistry x = withParcels(3);
    x.border(0, 1, true);
    x.addEasement(2, 0, 2);
    x.addEasement(2, 1, 2);
    x.addEasement(2, 0, 2);
    x.endEasement(0);
    x.advance(3);
    x.merge(0, 1);
    easementIs(x, 0, 2, 0, 2, 0, 0);
    easementIs(x, 1, 2, 3, 2, 0, -1);
    DUE.answers("an ended one is no twin", -1, () -> x.easement(1, 4));
    DUE.answers("a twin of a live one ends", 3, () -> x.easement(2, 4));
  }

  private static void reaching() {
    ParcelRegistry x = withParcels(6);
    x.addEasement(0, 1, 0);
    x.addEasement(0, 2, 1);
    x.addEasement(0, 0, 2);
    x.addEasement(1, 3, 0);
    x.addEasement(1, 4, 2);
    x.addEasement(0, 4, 2);
    x.addEasement(0, 2, 5);
    DUE.answers("from 0 by kind 0", 2 | 4 | 16, () -> x.access(0, 0));
    DUE.answers("from 2 by kind 0", 1 | 2 | 16, () -> x.access(2, 0));
    DUE.answers("from 5 by kind 0", 1 | 2 | 4 | 16, () -> x.access(5, 0));
    DUE.answers("from 4 by kind 0", 0, () -> x.access(4, 0));
    DUE.answers("from 0 by kind 1", 8, () -> x.access(0, 1));
    DUE.answers("from 0 by kind 3", 0, () -> x.access(0, 3));
    x.endEasement(1);
    DUE.answers("from 0 without the ended", 2, () -> x.access(0, 0));
    x.split(1, 50, 0);
    DUE.answers("to both parts", 64 | 128, () -> x.access(0, 0));
    DUE.answers("from an ended one", 0, () -> x.access(1, 0));
    DUE.fails("access -1", Due.INDEX, () -> x.access(-1, 9));
    DUE.fails("access 8", Due.INDEX, () -> x.access(8, 0));
    DUE.fails("kind -1", Due.ARGUMENT, () -> x.access(0, -1));
    DUE.fails("kind 4", Due.ARGUMENT, () -> x.access(0, 4));
    ParcelRegistry y = withParcels(24);
    for (int k = 23; k > 0; k--) {
      y.addEasement(3, k, k - 1);
    }
    DUE.answers("one after the other through all", 0xfffffe, () -> y.access(0, 3));
    ParcelRegistry z = withParcels(24);
    for (int k = 1; k < 24; k++) {
      z.addEasement(3, k, k - 1);
    }
    DUE.answers("the other way round", 0xfffffe, () -> z.access(0, 3));
  }
}
