/** Promises 35 to 37: the input, texts of commands, error positions. */
final class TextTest {
  private static final Due DUE = new Due();

  public static void main(String[] args) {
    appending();
    fullInput();
    eachCommand();
    severalCommands();
    numbersOfText();
    nothingOfIt();
    refusals();
    laterCommandsSeeEarlierOnes();
    whatCannotBeDone();
    errorPositions();
    positionIsKept();
    oneChange();
    DUE.finish();
  }

  private static void write(ParcelRegistry x, String text) {
    for (int k = 0; k < text.length(); k++) {
      x.append(text.charAt(k));
    }
  }

  private static void reads(ParcelRegistry x, String text, int due) {
    write(x, text);
    DUE.answers("read " + text, due, x::read);
    inputIsEmpty(x);
  }

  private static void cannotDo(ParcelRegistry x, String text) {
    write(x, text);
    DUE.fails("read " + text, Due.STATE, x::read);
    inputIsEmpty(x);
  }

  private static void isWrong(ParcelRegistry x, String text, int position) {
    write(x, text);
    DUE.fails("read " + text, Due.ARGUMENT, x::read);
    DUE.answers("errorPosition of " + text, position, x::errorPosition);
  }

  /** Looks at the length by a character, and takes it away again by a read that fails. */
  private static void inputIsEmpty(ParcelRegistry x) {
    DUE.answers("the input is empty", 1, () -> x.append('!'));
    DUE.fails("read !", Due.ARGUMENT, x::read);
  }

  private static ParcelRegistry withParcels(int many) {
    ParcelRegistry x = new ParcelRegistry();
    for (int k = 0; k < many; k++) {
      x.addParcel(500, 2);
    }
    return x;
  }

  private static void appending() {
    ParcelRegistry x = new ParcelRegistry();
    DUE.answers("append blank", 1, () -> x.append(' '));
    DUE.answers("append 126", 2, () -> x.append('~'));
    DUE.fails("append 31", Due.ARGUMENT, () -> x.append((char) 31));
    DUE.fails("append 127", Due.ARGUMENT, () -> x.append((char) 127));
    DUE.fails("append 0", Due.ARGUMENT, () -> x.append((char) 0));
    DUE.fails("append 65535", Due.ARGUMENT, () -> x.append((char) 65535));
    DUE.answers("append behind wrong ones", 3, () -> x.append('3'));
    DUE.fails("append is no change", Due.ABSENT, x::undo);
  }

  private static void fullInput() {
    ParcelRegistry x = new ParcelRegistry();
    for (int k = 1; k <= 80; k++) {
      int length = k;
      DUE.answers("append", length, () -> x.append("days 1;".charAt((length - 1) % 7)));
    }
    DUE.fails("append the 81st", Due.STATE, () -> x.append('d'));
    DUE.fails("append a wrong 81st", Due.ARGUMENT, () -> x.append((char) 200));
    DUE.fails("read 80", Due.ARGUMENT, x::read);
    DUE.answers("the text stops at its end", 80, x::errorPosition);
    DUE.answers("no day passed", 0, () -> x.account(9));
    reads(x, "days 1;days 1;days 1;days 1;days 1;days 1;days 1;days 1;days 1;days 1;days 0001;", 11);
    DUE.answers("eleven days passed", 11, () -> x.account(9));
    reads(x, "days 1;days 1;days 1;days 1;days 1;days 1;days 1;days 1;days 1;days 1;days 1;", 11);
  }

  private static void eachCommand() {
    ParcelRegistry x = withParcels(3);
    x.border(0, 1, true);
    x.border(0, 2, true);
    reads(x, "split 0 120;", 1);
    DUE.answers("area of the first", 120, () -> x.parcel(3, 0));
    DUE.answers("all neighbours go to the first", 2 | 4 | 16, () -> x.parcel(3, 3));
    DUE.answers("the second has the first", 8, () -> x.parcel(4, 3));
    reads(x, "merge 3 1;", 1);
    DUE.answers("parents", 2 | 8, () -> x.parcel(5, 4));
    reads(x, "days 12;", 1);
    DUE.answers("present day", 12, () -> x.account(9));
    reads(x, "deed 5 2 9;", 1);
    DUE.answers("holder", 9, () -> x.holder(5, 12));
    DUE.answers("day of the deed", 12, () -> x.deedOf(5, 0, 2));
    DUE.answers("grantor", 2, () -> x.deedOf(5, 0, 0));
    reads(x, "deed 5 2 3;", 1);
    DUE.answers("a gap is recorded too", 1, () -> x.parcel(5, 8));
    reads(x, "way 5 2;", 1);
    DUE.answers("kind", 0, () -> x.easement(0, 0));
    DUE.answers("on", 5, () -> x.easement(0, 1));
    DUE.answers("serves", 2, () -> x.easement(0, 2));
    DUE.answers("came", 12, () -> x.easement(0, 3));
    reads(x, "lien 4 6 9999;", 1);
    DUE.answers("creditor", 6, () -> x.lien(0, 0));
    DUE.answers("amount", 9999, () -> x.lien(0, 1));
    DUE.answers("lies on", 16, () -> x.lien(0, 2));
  }

  private static void severalCommands() {
    ParcelRegistry x = withParcels(1);
    reads(x, "split 0 100;days 5;deed 1 2 4;way 1 2;lien 2 3 70;deed 2 2 4;merge 1 2;", 7);
    DUE.answers("merged", 3, () -> x.account(0) - 1);
    DUE.answers("its holder", 4, () -> x.parcel(3, 6));
    DUE.answers("its lien", 1, () -> x.parcel(3, 9));
    DUE.answers("the way ended", 5, () -> x.easement(0, 4));
  }

  private static void numbersOfText() {
    ParcelRegistry x = withParcels(1);
    reads(x, "days 0;", 1);
    reads(x, "days 0000;", 1);
    reads(x, "days 0999;", 1);
    DUE.answers("day", 999, () -> x.account(9));
    reads(x, "split 0000 0250;", 1);
    DUE.answers("area", 250, () -> x.parcel(2, 0));
    cannotDo(x, "days 1000;");
    cannotDo(x, "days 9999;");
    DUE.answers("day stays", 999, () -> x.account(9));
  }

  private static void nothingOfIt() {
    ParcelRegistry x = withParcels(2);
    x.border(0, 1, true);
    cannotDo(x, "days 5;split 0 100;way 2 3;lien 2 0 5;deed 3 2 1;merge 2 2;");
    DUE.answers("day", 0, () -> x.account(9));
    DUE.answers("parcels", 2, () -> x.account(0));
    DUE.answers("neighbours", 2, () -> x.parcel(0, 3));
    DUE.answers("still present", -1, () -> x.parcel(0, 2));
    DUE.answers("easements", 0, () -> x.account(6));
    DUE.answers("liens", 0, () -> x.account(7));
    DUE.answers("deeds", 0, () -> x.account(4));
    DUE.fails("no reason", Due.ABSENT, x::reason);
    DUE.answers("nothing remembered", 2, x::undo);
  }

  private static void refusals() {
    ParcelRegistry x = withParcels(2);
    cannotDo(x, "merge 0 1;");
    DUE.answers("no neighbours", 4, x::reason);
    cannotDo(x, "days 1;split 0 9;");
    DUE.answers("area", 2, x::reason);
    cannotDo(x, "split 0 50;split 0 50;");
    DUE.answers("not present", 1, x::reason);
    cannotDo(x, "split 0 50;deed 2 2 3;merge 2 3;");
    DUE.answers("other holders", 5, x::reason);
    cannotDo(x, "split 7 9;");
    DUE.answers("no refusal, reason stays", 5, x::reason);
    cannotDo(x, "merge 1 1;");
    DUE.answers("no refusal either", 5, x::reason);
    ParcelRegistry y = withParcels(23);
    cannotDo(y, "days 3;split 22 50;");
    DUE.answers("too many", 6, y::reason);
    DUE.answers("day", 0, () -> y.account(9));
  }

  private static void laterCommandsSeeEarlierOnes() {
    ParcelRegistry x = withParcels(1);
    reads(x, "days 999;days 999;days 999;days 999;days 999;days 999;days 999;days 999;", 8);
    cannotDo(x, "days 999;days 999;days 999;");
    DUE.answers("the third would pass the last day", 7992, () -> x.account(9));
    reads(x, "split 0 490;split 1 480;split 3 470;", 3);
    DUE.answers("parcels", 7, () -> x.account(0));
    DUE.answers("all went to the first parts", 4 | 16 | 64, () -> x.parcel(5, 3));
  }

  private static void whatCannotBeDone() {
    ParcelRegistry x = withParcels(2);
    String[] texts = {
      "split 2 100;", "split 9999 100;", "merge 0 2;", "merge 0 0;", "deed 2 0 0;", "deed 0 10 0;",
      "deed 0 0 10;", "way 0 0;", "way 0 2;", "way 2 0;", "lien 2 0 5;", "lien 0 10 5;",
      "lien 0 0 0;", "days 1000;",
    };
    for (String text : texts) {
      cannotDo(x, text);
    }
    DUE.fails("none of these is a refusal", Due.ABSENT, x::reason);
    for (int k = 0; k < 10; k++) {
      x.advance(999);
    }
    cannotDo(x, "days 9;days 1;");
    DUE.answers("day", 9990, () -> x.account(9));
    reads(x, "days 9;", 1);
    x.split(0, 50, 0);
    cannotDo(x, "deed 0 2 3;");
    cannotDo(x, "way 0 1;");
    cannotDo(x, "lien 0 1 1;");
    for (int k = 0; k < 20; k++) {
      x.addLien(1, 0, 1);
    }
    cannotDo(x, "lien 1 1 1;");
  }

  private static void errorPositions() {
    ParcelRegistry x = withParcels(1);
    isWrong(x, "", 0);
    isWrong(x, ";", 0);
    isWrong(x, " days 1;", 0);
    isWrong(x, "Days 1;", 0);
    isWrong(x, "dead 1;", 2);
    isWrong(x, "deay", 2);
    isWrong(x, "days;", 4);
    isWrong(x, "days", 4);
    isWrong(x, "days ", 5);
    isWrong(x, "days 1", 6);
    isWrong(x, "days  1;", 5);
    isWrong(x, "days 1 ;", 6);
    isWrong(x, "days 1 2;", 6);
    isWrong(x, "days -1;", 5);
    isWrong(x, "days 1a;", 6);
    isWrong(x, "days 12345;", 9);
    isWrong(x, "days 00001;", 9);
    isWrong(x, "days 1;;", 7);
    isWrong(x, "days 1; days 1;", 7);
    isWrong(x, "days 1;d", 8);
    isWrong(x, "days 1;x", 7);
    isWrong(x, "dayss 1;", 4);
    isWrong(x, "d", 1);
    isWrong(x, "wax", 2);
    isWrong(x, "mergw", 4);
    isWrong(x, "lines", 2);
    isWrong(x, "spilt", 2);
    isWrong(x, "split 0;", 7);
    isWrong(x, "split 0 10 0;", 10);
    isWrong(x, "merge 0;", 7);
    isWrong(x, "merge 0 1 2;", 9);
    isWrong(x, "deed 0 1;", 8);
    isWrong(x, "deed 0 1 2 3;", 10);
    isWrong(x, "way 0;", 5);
    isWrong(x, "way 0 1 2;", 7);
    isWrong(x, "lien 0 1;", 8);
    isWrong(x, "lien 0 1 2 3;", 10);
    isWrong(x, "days /;", 5);
    isWrong(x, "days :;", 5);
    DUE.answers("nothing was done", 0, () -> x.account(9));
  }

  private static void positionIsKept() {
    ParcelRegistry x = withParcels(1);
    DUE.fails("none kept", Due.ABSENT, x::errorPosition);
    write(x, "days 1000;");
    DUE.fails("cannot be done", Due.STATE, x::read);
    DUE.fails("still none kept", Due.ABSENT, x::errorPosition);
    isWrong(x, "days x", 5);
    write(x, "days 1;");
    DUE.answers("a right text", 1, x::read);
    DUE.answers("it stays", 5, x::errorPosition);
    write(x, "days 1000;");
    DUE.fails("cannot be done", Due.STATE, x::read);
    DUE.answers("it stays", 5, x::errorPosition);
    x.undo();
    DUE.answers("it stays behind undo", 5, x::errorPosition);
    isWrong(x, "w", 1);
    write(x, "split 0 1;days");
    DUE.fails("a text that is not right is not done at all", Due.ARGUMENT, x::read);
    DUE.fails("and tells no reason", Due.ABSENT, x::reason);
  }

  private static void oneChange() {
    ParcelRegistry x = withParcels(1);
    reads(x, "days 1;days 2;split 0 100;", 3);
    DUE.answers("undo", 1, x::undo);
    DUE.answers("day", 0, () -> x.account(9));
    DUE.answers("parcels", 1, () -> x.account(0));
    reads(x, "days 0;", 1);
    DUE.answers("an idle read is a change", 1, x::undo);
  }
}
