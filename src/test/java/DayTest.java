/** Promises 32 to 34: days, accounts, mean areas. */
final class DayTest {
  private static final Due DUE = new Due();

  public static void main(String[] args) {
    advancing();
    accounts();
    means();
    DUE.finish();
  }

  private static void advancing() {
    ParcelRegistry x = new ParcelRegistry();
    DUE.answers("advance 0", 0, () -> x.advance(0));
    DUE.answers("advance 999", 999, () -> x.advance(999));
    DUE.fails("advance -1", Due.ARGUMENT, () -> x.advance(-1));
    DUE.fails("advance 1000", Due.ARGUMENT, () -> x.advance(1000));
    DUE.fails("advance by the greatest", Due.ARGUMENT, () -> x.advance(Integer.MAX_VALUE));
    for (int day = 1998; day <= 9990; day += 999) {
      int due = day;
      DUE.answers("advance to " + day, due, () -> x.advance(999));
    }
    DUE.fails("advance to 10000", Due.STATE, () -> x.advance(10));
    DUE.fails("advance by 1000 then", Due.ARGUMENT, () -> x.advance(1000));
    DUE.answers("advance to 9999", 9999, () -> x.advance(9));
    DUE.fails("advance past 9999", Due.STATE, () -> x.advance(1));
    DUE.answers("advance 0 is a change", 9999, () -> x.advance(0));
    DUE.answers("undo", 5, x::undo);
    DUE.answers("still 9999", 9999, () -> x.account(9));
    x.undo();
    DUE.answers("then 9990", 9990, () -> x.account(9));
  }

  private static void accountsAre(ParcelRegistry x, int... due) {
    for (int k = 0; k < due.length; k++) {
      int account = k;
      DUE.answers("account " + k, due[k], () -> x.account(account));
    }
  }

  private static void accounts() {
    ParcelRegistry x = new ParcelRegistry();
    x.addParcel(100, 0);
    x.addParcel(200, 0);
    x.addParcel(400, 1);
    x.border(0, 1, true);
    x.border(0, 2, true);
    x.border(1, 2, true);
    x.advance(20);
    x.deed(0, 0, 2, 10);
    x.deed(0, 0, 2, 10);
    x.deed(1, 5, 2, 10);
    x.deed(1, 0, 2, 10);
    x.addEasement(0, 0, 1);
    x.addEasement(0, 2, 1);
    x.addLien(0, 0, 30);
    x.addLien(0, 0, 50);
    accountsAre(x, 3, 3, 700, 700, 4, 2, 2, 2, 80, 20, 3);
    x.merge(0, 1);
    accountsAre(x, 4, 2, 700, 700, 4, 2, 1, 2, 80, 20, 1);
    x.split(3, 100, 4);
    accountsAre(x, 6, 3, 700, 700, 4, 2, 2, 2, 80, 20, 2);
    x.release(0);
    x.endEasement(2);
    accountsAre(x, 6, 3, 700, 700, 4, 2, 1, 1, 50, 20, 2);
    DUE.fails("account -1", Due.ARGUMENT, () -> x.account(-1));
    DUE.fails("account 11", Due.ARGUMENT, () -> x.account(11));
  }

  private static void means() {
    ParcelRegistry x = new ParcelRegistry();
    x.addParcel(100, 3);
    x.addParcel(201, 3);
    x.addParcel(50, 4);
    DUE.measures("mean of two", 150.5, () -> x.meanArea(3));
    DUE.measures("mean of one", 50.0, () -> x.meanArea(4));
    x.deed(2, 4, 3, 0);
    DUE.measures("mean of three", 117.0, () -> x.meanArea(3));
    x.deed(2, 3, 4, 0);
    x.addParcel(99, 3);
    x.addParcel(100, 3);
    x.addParcel(101, 3);
    x.split(3, 50, 0);
    DUE.measures("mean of six", 601.0 / 6.0, () -> x.meanArea(3));
    DUE.fails("mean of none", Due.ARITHMETIC, () -> (long) x.meanArea(5));
    DUE.fails("mean of -1", Due.INDEX, () -> (long) x.meanArea(-1));
    DUE.fails("mean of 10", Due.INDEX, () -> (long) x.meanArea(10));
  }
}
