import java.util.ArrayList;
import java.util.List;

/**
 * What the document says of every call, under "History." and "Exceptions.": what a call leaves as
 * it was, and what each undo brings back. Every step of every script is measured by it.
 */
final class Laws {
  private static final int MOST_CHANGES = 6;
  private static final List<String> AS_NEW = new Look(List.of()).seen;

  private final Call call;
  private final boolean isThrown;
  private final Look before;
  private final Look after;
  private final List<String> broken = new ArrayList<>();

  private Laws(Call call, String answer, Look before, Look after) {
    this.call = call;
    this.before = before;
    this.after = after;
    isThrown = answer.startsWith("!");
  }

  /** The laws that a call breaks, in words. */
  static List<String> brokenBy(Call call, String answer, Look before, Look after) {
    Laws laws = new Laws(call, answer, before, after);
    laws.measureWhatIsTold();
    laws.measureWhatIsSeen();
    laws.measureHistory();
    return laws.broken;
  }

  private void same(String what, Object due, Object got) {
    if (!due.equals(got)) {
      broken.add(call + ": " + what + " is not as due: " + firstDifference(due, got));
    }
  }

  private static String firstDifference(Object due, Object got) {
    if (due instanceof List<?> dues && got instanceof List<?> gots) {
      for (int k = 0; k < dues.size() && k < gots.size(); k++) {
        if (!dues.get(k).equals(gots.get(k))) {
          return firstDifference(dues.get(k), gots.get(k));
        }
      }
      return "due are " + dues.size() + " of them, there are " + gots.size();
    }
    return "due is " + due + ", there is " + got;
  }

  private boolean isRefusable() {
    return call.name.equals("split") || call.name.equals("merge") || call.name.equals("read");
  }

  private void measureWhatIsTold() {
    if (!isThrown || !isRefusable()) {
      same("the reason", before.reason, after.reason);
    }
    if (!isThrown || !call.name.equals("read")) {
      same("the error position", before.position, after.position);
    }
    if (call.name.equals("read")) {
      same("the input", "1", after.input);
    } else if (isThrown || !call.name.equals("append")) {
      same("the input", before.input, after.input);
    }
    if (call.name.equals("save")) {
      same("what was saved", before.seen, after.saved.subList(0, after.saved.size() - 1));
    } else {
      same("what was saved", before.saved, after.saved);
    }
  }

  private void measureWhatIsSeen() {
    if (call.isChange() && !isThrown) {
      return;
    }
    List<String> due = before.seen;
    if (!isThrown && call.name.equals("clear")) {
      due = AS_NEW;
    } else if (!isThrown && call.name.equals("undo")) {
      due = before.history.get(0);
    } else if (!isThrown && call.name.equals("restore")) {
      due = before.saved.subList(0, before.saved.size() - 1);
    }
    same("what can be asked", due, after.seen);
  }

  private void measureHistory() {
    List<List<String>> due = new ArrayList<>(before.history);
    if (!isThrown && call.isChange()) {
      due.add(0, before.seen);
      due = due.subList(0, Math.min(due.size(), MOST_CHANGES));
    } else if (!isThrown && call.name.equals("undo")) {
      due.remove(0);
    } else if (!isThrown && (call.name.equals("clear") || call.name.equals("restore"))) {
      due.clear();
    }
    same("what is remembered", due, after.history);
    List<String> answers = new ArrayList<>();
    for (int rest = due.size() - 1; rest >= 0; rest--) {
      answers.add(String.valueOf(rest));
    }
    answers.add("! NoSuchElement");
    same("what undo answers", answers, after.undone);
  }
}
