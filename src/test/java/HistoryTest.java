/** Promises 38 to 40: undo, save, restore. */
final class HistoryTest {
  private static final Due DUE = new Due();

  public static void main(String[] args) {
    undoing();
    sixChanges();
    eachKindOfChange();
    whatIsNoChange();
    whatUndoLeaves();
    saving();
    restoring();
    restoringLeaves();
    DUE.finish();
  }

  private static void undoing() {
    ParcelRegistry x = new ParcelRegistry();
    DUE.fails("undo of nothing", Due.ABSENT, x::undo);
    x.addParcel(100, 1);
    x.addParcel(200, 2);
    x.border(0, 1, true);
    DUE.answers("undo border", 2, x::undo);
    DUE.answers("no neighbours", 0, () -> x.parcel(0, 3));
    DUE.answers("undo addParcel", 1, x::undo);
    DUE.answers("one parcel", 1, () -> x.account(0));
    x.addParcel(300, 3);
    DUE.answers("another one", 300, () -> x.parcel(1, 0));
    DUE.answers("undo that", 1, x::undo);
    DUE.answers("undo the first", 0, x::undo);
    DUE.answers("no parcels", 0, () -> x.account(0));
    DUE.fails("undo of no more", Due.ABSENT, x::undo);
  }

  private static void sixChanges() {
    ParcelRegistry x = new ParcelRegistry();
    for (int k = 0; k < 20; k++) {
      x.advance(1);
    }
    for (int k = 5; k >= 3; k--) {
      int due = k;
      DUE.answers("undo", due, x::undo);
    }
    DUE.answers("day", 17, () -> x.account(9));
    x.advance(10);
    x.advance(10);
    DUE.answers("undo", 4, x::undo);
    for (int k = 3; k >= 0; k--) {
      int due = k;
      DUE.answers("undo", due, x::undo);
    }
    DUE.answers("the oldest that is remembered", 14, () -> x.account(9));
    DUE.fails("no more", Due.ABSENT, x::undo);
  }

  private static void eachKindOfChange() {
    ParcelRegistry x = new ParcelRegistry();
    x.addParcel(100, 0);
    x.addParcel(100, 0);
    x.border(0, 1, true);
    x.advance(3);
    x.deed(0, 0, 1, 2);
    x.deed(1, 0, 1, 2);
    DUE.answers("undo deed", 5, x::undo);
    DUE.answers("deeds", 1, () -> x.account(4));
    x.addEasement(1, 0, 1);
    DUE.answers("undo addEasement", 5, x::undo);
    DUE.answers("easements", 0, () -> x.account(6));
    x.addEasement(1, 0, 1);
    x.endEasement(0);
    DUE.answers("undo endEasement", 5, x::undo);
    DUE.answers("easements", 1, () -> x.account(6));
    x.addLien(0, 1, 50);
    x.addLien(0, 1, 60);
    x.postpone(0, 1);
    x.release(0);
    DUE.answers("undo release", 5, x::undo);
    DUE.answers("its place", 1, () -> x.lien(0, 3));
    DUE.answers("undo postpone", 4, x::undo);
    DUE.answers("its place", 0, () -> x.lien(0, 3));
    DUE.answers("undo addLien", 3, x::undo);
    DUE.answers("liens", 1, () -> x.account(7));
    x.split(0, 50, 2);
    DUE.answers("undo split", 3, x::undo);
    DUE.answers("parcels", 2, () -> x.account(0));
    DUE.answers("neighbours of 0", 2, () -> x.parcel(0, 3));
    DUE.answers("its lien", 1, () -> x.lien(0, 2));
    x.deed(1, 0, 1, 3);
    x.merge(0, 1);
    DUE.answers("undo merge", 4, x::undo);
    DUE.answers("parcels", 2, () -> x.account(1));
    DUE.answers("the easement", 0, () -> x.easement(0, 1));
    x.advance(5);
    DUE.answers("undo advance", 4, x::undo);
    DUE.answers("day", 3, () -> x.account(9));
  }

  private static void whatIsNoChange() {
    ParcelRegistry x = new ParcelRegistry();
    x.addParcel(100, 0);
    x.addParcel(100, 0);
    x.save();
    x.append('d');
    x.partners(0);
    DUE.fails("read", Due.ARGUMENT, x::read);
    DUE.fails("merge", Due.REFUSED, () -> x.merge(0, 1));
    DUE.fails("release", Due.INDEX, () -> x.release(0));
    DUE.fails("border", Due.ARGUMENT, () -> x.border(0, 0, true) ? 1 : 0);
    DUE.answers("only two are remembered", 1, x::undo);
    DUE.answers("the second parcel is gone", 1, () -> x.account(0));
  }

  private static void whatUndoLeaves() {
    ParcelRegistry x = new ParcelRegistry();
    x.addParcel(100, 0);
    x.save();
    x.advance(4);
    DUE.fails("split", Due.REFUSED, () -> x.split(0, 1, 0));
    x.append('q');
    DUE.fails("read", Due.ARGUMENT, x::read);
    x.append('d');
    x.undo();
    x.undo();
    DUE.answers("reason", 2, x::reason);
    DUE.answers("errorPosition", 0, x::errorPosition);
    DUE.answers("input", 2, () -> x.append('e'));
    DUE.answers("saved", 1, x::restore);
  }

  private static void saving() {
    ParcelRegistry x = new ParcelRegistry();
    DUE.fails("restore of nothing", Due.STATE, x::restore);
    DUE.answers("save of nothing", 0, x::save);
    x.addParcel(100, 0);
    x.addParcel(200, 0);
    x.split(0, 50, 0);
    DUE.answers("restore an empty one", 0, x::restore);
    DUE.answers("no parcels", 0, () -> x.account(0));
    x.addParcel(100, 0);
    x.addParcel(200, 0);
    x.split(0, 50, 0);
    DUE.answers("save counts present ones", 3, x::save);
    DUE.answers("save keeps the history", 2, x::undo);
    DUE.answers("save again", 2, x::save);
    DUE.answers("what was saved before is replaced", 2, x::restore);
    DUE.answers("parcels", 2, () -> x.account(0));
  }

  private static void restoring() {
    ParcelRegistry x = new ParcelRegistry();
    x.addParcel(100, 0);
    x.addParcel(200, 0);
    x.border(0, 1, true);
    x.advance(7);
    x.deed(0, 0, 4, 5);
    x.deed(1, 0, 4, 5);
    x.addEasement(2, 0, 1);
    x.addLien(0, 3, 40);
    x.addLien(1, 3, 50);
    x.save();
    x.merge(0, 1);
    x.advance(3);
    x.postpone(0, 1);
    DUE.answers("restore", 2, x::restore);
    DUE.answers("day", 7, () -> x.account(9));
    DUE.answers("neighbours", 2, () -> x.parcel(0, 3));
    DUE.answers("holder", 4, () -> x.holder(0, 6));
    DUE.answers("easement", -1, () -> x.easement(0, 4));
    DUE.answers("lien", 1, () -> x.lien(0, 2));
    DUE.answers("its place", 0, () -> x.lien(0, 3));
    DUE.fails("restore forgets the history", Due.ABSENT, x::undo);
    x.advance(1);
    DUE.answers("and is no change", 0, x::undo);
    x.release(0);
    DUE.answers("it stays saved", 2, x::restore);
    DUE.answers("as it was", 0, () -> x.lien(0, 3));
    x.clear();
    DUE.answers("behind clear", 2, x::restore);
    DUE.answers("deeds", 2, () -> x.account(4));
  }

  private static void restoringLeaves() {
    ParcelRegistry x = new ParcelRegistry();
    x.addParcel(100, 0);
    x.save();
    DUE.fails("split", Due.REFUSED, () -> x.split(0, 1, 0));
    x.append('q');
    DUE.fails("read", Due.ARGUMENT, x::read);
    x.append('d');
    x.restore();
    DUE.answers("reason", 2, x::reason);
    DUE.answers("errorPosition", 0, x::errorPosition);
    DUE.answers("input", 2, () -> x.append('e'));
  }
}
