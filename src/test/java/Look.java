import java.util.ArrayList;
import java.util.List;

/**
 * All that an object tells after some calls: what can be asked, the length of the input, what was
 * saved, and what each undo brings back. The calls are made again for it, so that no object gets
 * more than 512 of them.
 */
final class Look {
  private static final int MOST_CALLS = 512;

  final List<String> seen;
  final String reason;
  final String position;
  /** What one more character is answered. */
  final String input;
  final List<String> saved;
  /** What is seen after one undo, after two, and so on. */
  final List<List<String>> history = new ArrayList<>();
  /** What the undos answered, the last one an exception. */
  final List<String> undone = new ArrayList<>();

  Look(List<Call> calls) {
    Asker asker = new Asker(calls);
    seen = asker.all();
    reason = asker.answer(Call.of("reason"));
    position = asker.answer(Call.of("errorPosition"));
    input = new Asker(calls).answer(Call.of("append", 'a'));
    saved = savedAfter(calls);
    List<Call> more = new ArrayList<>(calls);
    String answer = new Asker(more).answer(Call.of("undo"));
    undone.add(answer);
    // More than six of them would be a fault, which shows already with the seventh.
    while (!answer.startsWith("!") && history.size() < 8) {
      more.add(Call.of("undo"));
      history.add(new Asker(more).all());
      answer = new Asker(more).answer(Call.of("undo"));
      undone.add(answer);
    }
  }

  private static List<String> savedAfter(List<Call> calls) {
    String answer = new Asker(calls).answer(Call.of("restore"));
    List<String> all = new ArrayList<>();
    if (!answer.startsWith("!")) {
      List<Call> more = new ArrayList<>(calls);
      more.add(Call.of("restore"));
      all.addAll(new Asker(more).all());
    }
    all.add("restore() = " + answer);
    return all;
  }

  /** Asks objects that have had the same calls. */
  private static final class Asker {
    private final List<Call> before;
    private ParcelRegistry x;
    private int calls;

    Asker(List<Call> before) {
      this.before = before;
      calls = MOST_CALLS;
    }

    String answer(Call question) {
      if (calls >= MOST_CALLS) {
        x = new ParcelRegistry();
        calls = before.size();
        for (Call call : before) {
          call.answerOf(x);
        }
      }
      calls++;
      return question.answerOf(x);
    }

    private int number(String name, Object... args) {
      return Integer.parseInt(answer(Call.of(name, args)));
    }

    private String ask(List<String> into, String name, Object... args) {
      Call question = Call.of(name, args);
      String answer = answer(question);
      into.add(question + " = " + answer);
      return answer;
    }

    List<String> all() {
      List<String> all = new ArrayList<>();
      for (int account = 0; account <= 10; account++) {
        ask(all, "account", account);
      }
      int liens = askLiens(all);
      int easements = askEasements(all);
      int parcels = number("account", 0);
      for (int parcel = 0; parcel < parcels; parcel++) {
        askParcel(all, parcel);
        askChain(all, parcel);
        for (int place = 0; place <= liens && place < 3; place++) {
          ask(all, "lienAt", parcel, place);
        }
        ask(all, "easements", parcel, true);
        ask(all, "easements", parcel, false);
        ask(all, "access", parcel, easements % 4);
        ask(all, "left", parcel, 1000000);
      }
      for (int person = 0; person < 10; person++) {
        ask(all, "holdings", person);
      }
      return all;
    }

    private int askLiens(List<String> all) {
      int lien = 0;
      while (!ask(all, "lien", lien, 0).startsWith("!")) {
        ask(all, "lien", lien, 1);
        ask(all, "lien", lien, 2);
        ask(all, "lien", lien, 3);
        lien++;
      }
      return lien;
    }

    private int askEasements(List<String> all) {
      int easement = 0;
      while (!ask(all, "easement", easement, 0).startsWith("!")) {
        for (int what = 1; what <= 4; what++) {
          ask(all, "easement", easement, what);
        }
        easement++;
      }
      return easement;
    }

    private void askParcel(List<String> all, int parcel) {
      for (int what = 0; what <= 9; what++) {
        ask(all, "parcel", parcel, what);
      }
      ask(all, "partners", parcel);
      ask(all, "origins", parcel);
      ask(all, "remains", parcel);
      ask(all, "borders", 0, parcel);
    }

    private void askChain(List<String> all, int parcel) {
      int deeds = number("parcel", parcel, 7);
      for (int index = 0; index < deeds; index++) {
        for (int what = 0; what <= 3; what++) {
          ask(all, "deedOf", parcel, index, what);
        }
      }
      ask(all, "holder", parcel, number("parcel", parcel, 1));
      ask(all, "holder", parcel, number("account", 9));
    }
  }
}
