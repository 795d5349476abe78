import java.util.ArrayList;
import java.util.List;
import java.util.regex.Matcher;
import java.util.regex.Pattern;

/**
 * A run of calls on one new object, a step a line:
 * addParcel(10, 0) is made, whatever it answers; with -> 5 the answer is due; with ! IllegalState
 * an IllegalStateException is due; with 3 x ahead it is made three times; with for 0-22: ahead for
 * each number, which is then written [k], or [k+1], [k-1]; type "days 1;" appends the characters.
 */
final class Script {
  private static final Pattern STEP =
      Pattern.compile("(\\w+\\(.*?\\))(?:\\s+->\\s+(\\S.*)|\\s+!\\s+(\\w+))?");
  private static final Pattern TIMES = Pattern.compile("(\\d+) x (.*)");
  private static final Pattern EACH = Pattern.compile("for (\\d+)-(\\d+): (.*)");
  private static final Pattern TYPE = Pattern.compile("type \"(.*)\"");
  private static final int MOST_CALLS = 512;
  // A longer run leaves too few calls to look at the object before it has had 512.
  private static final int MOST_MEASURED = 300;

  private final ParcelRegistry x = new ParcelRegistry();
  private final List<Call> calls = new ArrayList<>();
  private final List<String> faults = new ArrayList<>();
  // What the object tells after so many of the calls, or null if it has not been looked at then.
  private Look look = null;
  private int lookedAt = -1;

  int calls() {
    return calls.size();
  }

  List<String> faults() {
    return faults;
  }

  void step(String line) {
    Matcher type = TYPE.matcher(line);
    Matcher times = TIMES.matcher(line);
    Matcher each = EACH.matcher(line);
    if (type.matches()) {
      type(type.group(1));
    } else if (times.matches()) {
      int last = Integer.parseInt(times.group(1));
      for (int k = 1; k <= last; k++) {
        // To look at the object is dear, so of many steps only the last one is measured.
        single(times.group(2), k == last);
      }
    } else if (each.matches()) {
      int last = Integer.parseInt(each.group(2));
      for (int k = Integer.parseInt(each.group(1)); k <= last; k++) {
        single(withNumber(each.group(3), k), k == last);
      }
    } else {
      single(line, true);
    }
  }

  private static String withNumber(String step, int k) {
    return step.replace("[k]", "" + k).replace("[k+1]", "" + (k + 1)).replace("[k-1]", "" + (k - 1));
  }

  private void type(String text) {
    for (char character : text.toCharArray()) {
      String answer = make(Call.of("append", character));
      if (answer.startsWith("!")) {
        faults.add("append('" + character + "') answered " + answer);
      }
    }
  }

  private void single(String text, boolean isMeasured) {
    Matcher step = STEP.matcher(text);
    if (!step.matches()) {
      faults.add("not a step: " + text);
      return;
    }
    Call call = Call.parse(step.group(1));
    String answer = isMeasured ? measured(call) : make(call);
    compare(call, answer, step.group(2), step.group(3));
  }

  private void compare(Call call, String answer, String due, String thrown) {
    if (due == null && thrown == null) {
      if (answer.startsWith("!")) {
        faults.add(call + " answered " + answer + ", due is no exception");
      }
      return;
    }
    String wanted = thrown == null ? call.due(due) : "! " + thrown;
    if (!wanted.equals(answer)) {
      faults.add(call + " answered " + answer + ", due is " + wanted);
    }
  }

  private String make(Call call) {
    calls.add(call);
    if (calls.size() > MOST_CALLS) {
      faults.add("more than 512 calls of one object");
    }
    return call.answerOf(x);
  }

  private String measured(Call call) {
    if (calls.size() >= MOST_MEASURED) {
      return make(call);
    }
    Look before = lookedAt == calls.size() ? look : new Look(calls);
    String answer = make(call);
    look = new Look(calls);
    lookedAt = calls.size();
    faults.addAll(Laws.brokenBy(call, answer, before, look));
    return answer;
  }
}
