/** Promises 13 to 18: deeds, chains with gaps, holders. */
final class DeedTest {
  private static final Due DUE = new Due();

  public static void main(String[] args) {
    recording();
    wrongDeeds();
    sixtyDeeds();
    numbersOfDeeds();
    holdingAtDays();
    holdingParcels();
    holdingAtSomePoint();
    leavingOut();
    leavingOutGoodOnes();
    DUE.finish();
  }

  private static ParcelRegistry atDay(int day, int parcels) {
    ParcelRegistry x = new ParcelRegistry();
    for (int k = 0; k < parcels; k++) {
      x.addParcel(100, 0);
    }
    for (int rest = day; rest > 0; rest -= 999) {
      x.advance(Math.min(rest, 999));
    }
    return x;
  }

  private static void recording() {
    ParcelRegistry x = atDay(10, 2);
    DUE.answers("a good deed", 1, () -> x.deed(0, 0, 1, 5));
    DUE.answers("a gap", 0, () -> x.deed(0, 0, 2, 5));
    DUE.answers("a good one behind a gap", 1, () -> x.deed(0, 1, 3, 8));
    DUE.answers("the holder", 3, () -> x.parcel(0, 6));
    DUE.answers("an earlier good one that makes later ones gaps", 1, () -> x.deed(0, 0, 4, 2));
    DUE.answers("the holder then", 4, () -> x.parcel(0, 6));
    DUE.answers("gaps then", 3, () -> x.parcel(0, 8));
    DUE.answers("one that makes some good again", 1, () -> x.deed(0, 4, 0, 4));
    DUE.answers("gaps then", 1, () -> x.parcel(0, 8));
    DUE.answers("holder then", 3, () -> x.parcel(0, 6));
    DUE.answers("a deed to the same person", 1, () -> x.deed(0, 3, 3, 10));
    DUE.answers("another chain", 1, () -> x.deed(1, 0, 9, 0));
    DUE.answers("chain of the other", 1, () -> x.parcel(1, 7));
    DUE.answers("all deeds", 7, () -> x.account(4));
    DUE.answers("undo", 5, x::undo);
    DUE.answers("all deeds but one", 6, () -> x.account(4));
  }

  private static void wrongDeeds() {
    ParcelRegistry x = atDay(3, 1);
    x.addParcel(50, 0);
    x.advance(4);
    DUE.fails("deed of -1", Due.INDEX, () -> x.deed(-1, 0, 0, 99));
    DUE.fails("deed of 2", Due.INDEX, () -> x.deed(2, 0, 0, 4));
    DUE.fails("grantor -1", Due.ARGUMENT, () -> x.deed(0, -1, 0, 4));
    DUE.fails("grantor 10", Due.ARGUMENT, () -> x.deed(0, 10, 0, 4));
    DUE.fails("grantee -1", Due.ARGUMENT, () -> x.deed(0, 0, -1, 4));
    DUE.fails("grantee 10", Due.ARGUMENT, () -> x.deed(0, 0, 10, 4));
    DUE.fails("day -1", Due.ARGUMENT, () -> x.deed(0, 0, 0, -1));
    DUE.fails("day before the first", Due.ARGUMENT, () -> x.deed(1, 0, 0, 2));
    DUE.fails("day after the present", Due.ARGUMENT, () -> x.deed(0, 0, 0, 8));
    DUE.answers("no deeds", 0, () -> x.account(4));
    DUE.answers("the first day", 1, () -> x.deed(1, 0, 1, 3));
    DUE.answers("the present day", 1, () -> x.deed(1, 1, 9, 7));
    x.split(1, 20, 0);
    DUE.fails("deed of an ended one", Due.STATE, () -> x.deed(1, 9, 0, 7));
    DUE.fails("deed of an ended one out of range", Due.ARGUMENT, () -> x.deed(1, 9, 10, 7));
    DUE.answers("deed of a part", 1, () -> x.deed(2, 9, 0, 7));
    DUE.fails("deed of a part before its day", Due.ARGUMENT, () -> x.deed(3, 9, 0, 6));
  }

  private static void sixtyDeeds() {
    ParcelRegistry x = atDay(2, 2);
    for (int k = 0; k < 60; k++) {
      int number = k;
      DUE.answers("deed", k < 1 ? 1 : 0, () -> x.deed(0, 0, 1, 1));
      DUE.answers("deeds", number + 1, () -> x.account(4));
    }
    DUE.fails("a 61st deed", Due.STATE, () -> x.deed(1, 0, 1, 1));
    DUE.fails("a 61st deed out of range", Due.ARGUMENT, () -> x.deed(1, 0, 1, 3));
    DUE.answers("needless", 59, () -> x.needless(0));
    DUE.answers("deeds", 60, () -> x.parcel(0, 7));
    DUE.fails("index 60", Due.INDEX, () -> x.deedOf(0, 60, 0));
    DUE.answers("index 59", 1, () -> x.deedOf(0, 59, 2));
  }

  private static void numbersOfDeeds() {
    ParcelRegistry x = atDay(9, 2);
    x.deed(0, 5, 6, 9);
    x.deed(1, 0, 3, 4);
    x.deed(0, 0, 1, 4);
    x.deed(0, 1, 5, 9);
    x.deed(0, 7, 8, 4);
    int[][] due = {{0, 1, 4, 1}, {7, 8, 4, 0}, {5, 6, 9, 0}, {1, 5, 9, 1}};
    for (int index = 0; index < 4; index++) {
      for (int what = 0; what < 4; what++) {
        int i = index;
        int w = what;
        DUE.answers("deedOf 0, " + i + ", " + w, due[i][w], () -> x.deedOf(0, i, w));
      }
    }
    DUE.answers("of the other chain", 3, () -> x.deedOf(1, 0, 1));
    DUE.fails("deedOf -1", Due.INDEX, () -> x.deedOf(-1, 0, 0));
    DUE.fails("deedOf 2", Due.INDEX, () -> x.deedOf(2, 0, 0));
    DUE.fails("index -1", Due.INDEX, () -> x.deedOf(0, -1, 0));
    DUE.fails("index 4", Due.INDEX, () -> x.deedOf(0, 4, 9));
    DUE.fails("index 1 of the other", Due.INDEX, () -> x.deedOf(1, 1, 0));
    DUE.fails("what -1", Due.ARGUMENT, () -> x.deedOf(0, 0, -1));
    DUE.fails("what 4", Due.ARGUMENT, () -> x.deedOf(0, 0, 4));
  }

  private static void holdingAtDays() {
    ParcelRegistry x = atDay(2, 0);
    x.addParcel(100, 3);
    x.advance(8);
    x.deed(0, 3, 4, 5);
    x.deed(0, 4, 5, 5);
    x.deed(0, 0, 9, 6);
    x.deed(0, 5, 6, 8);
    DUE.fails("before the first day", Due.ABSENT, () -> x.holder(0, 1));
    DUE.answers("on the first day", 3, () -> x.holder(0, 2));
    DUE.answers("before all deeds", 3, () -> x.holder(0, 4));
    DUE.answers("behind both of a day", 5, () -> x.holder(0, 5));
    DUE.answers("behind a gap", 5, () -> x.holder(0, 7));
    DUE.answers("behind all", 6, () -> x.holder(0, 8));
    DUE.answers("on the present day", 6, () -> x.holder(0, 10));
    DUE.fails("after the present day", Due.ABSENT, () -> x.holder(0, 11));
    DUE.fails("the greatest day", Due.ABSENT, () -> x.holder(0, Integer.MAX_VALUE));
    DUE.fails("the least day", Due.ABSENT, () -> x.holder(0, Integer.MIN_VALUE));
    x.split(0, 50, 0);
    x.advance(3);
    DUE.answers("the day before the last", 6, () -> x.holder(0, 9));
    DUE.fails("on the last day", Due.ABSENT, () -> x.holder(0, 10));
    DUE.fails("behind the last day", Due.ABSENT, () -> x.holder(0, 11));
    DUE.answers("of the part", 6, () -> x.holder(1, 10));
    DUE.fails("holder -1", Due.INDEX, () -> x.holder(-1, 0));
    DUE.fails("holder 3", Due.INDEX, () -> x.holder(3, 0));
  }

  private static void holdingParcels() {
    ParcelRegistry x = atDay(4, 3);
    x.addParcel(40, 2);
    x.deed(0, 0, 2, 1);
    x.deed(1, 5, 2, 1);
    DUE.answers("holdings of 2", 1 | 8, () -> x.holdings(2));
    DUE.answers("holdings of 0", 2 | 4, () -> x.holdings(0));
    DUE.answers("holdings of 9", 0, () -> x.holdings(9));
    x.split(0, 50, 0);
    DUE.answers("holdings behind a split", 8 | 16 | 32, () -> x.holdings(2));
    DUE.fails("holdings -1", Due.INDEX, () -> x.holdings(-1));
    DUE.fails("holdings 10", Due.INDEX, () -> x.holdings(10));
  }

  private static void holdingAtSomePoint() {
    ParcelRegistry x = atDay(4, 2);
    DUE.answers("the root alone", 1, () -> x.holders(0));
    x.deed(0, 0, 3, 2);
    x.deed(0, 5, 6, 2);
    x.deed(0, 3, 9, 2);
    x.deed(1, 0, 8, 2);
    DUE.answers("without those of gaps", 1 | 8 | 512, () -> x.holders(0));
    x.deed(0, 0, 7, 1);
    DUE.answers("behind an earlier deed", 1 | 128, () -> x.holders(0));
    x.split(0, 50, 0);
    DUE.answers("of the ended", 1 | 128, () -> x.holders(0));
    DUE.answers("of a part", 128, () -> x.holders(2));
    DUE.fails("holders -1", Due.INDEX, () -> x.holders(-1));
    DUE.fails("holders 4", Due.INDEX, () -> x.holders(4));
  }

  private static void leavingOut() {
    ParcelRegistry x = atDay(5, 2);
    DUE.answers("of no deeds", 0, () -> x.needless(0));
    x.deed(0, 0, 1, 0);
    x.deed(0, 1, 2, 0);
    DUE.answers("without gaps", 0, () -> x.needless(0));
    x.deed(0, 5, 6, 0);
    DUE.answers("with a gap", 1, () -> x.needless(0));
    x.deed(0, 6, 7, 0);
    DUE.answers("with two gaps", 2, () -> x.needless(0));
    x.deed(0, 2, 5, 1);
    x.deed(0, 5, 2, 2);
    DUE.answers("there and back stays", 2, () -> x.needless(0));
    DUE.answers("of the other chain", 0, () -> x.needless(1));
    DUE.fails("needless -1", Due.INDEX, () -> x.needless(-1));
    DUE.fails("needless 2", Due.INDEX, () -> x.needless(2));
  }

  private static void leavingOutGoodOnes() {
    ParcelRegistry x = atDay(5, 2);
    x.deed(0, 0, 1, 0);
    x.deed(0, 0, 2, 1);
    x.deed(0, 2, 3, 2);
    x.deed(0, 3, 1, 3);
    DUE.answers("gaps", 3, () -> x.parcel(0, 8));
    DUE.answers("a good one is left out", 1, () -> x.needless(0));
    x.deed(0, 4, 4, 4);
    x.deed(0, 1, 1, 4);
    DUE.answers("and a gap", 2, () -> x.needless(0));
    x.deed(1, 3, 0, 1);
    x.deed(1, 0, 3, 2);
    x.deed(1, 3, 4, 3);
    x.deed(1, 0, 4, 4);
    DUE.answers("the longer way is kept", 2, () -> x.needless(1));
  }
}
