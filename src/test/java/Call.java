import java.lang.reflect.InvocationTargetException;
import java.lang.reflect.Method;
import java.util.ArrayList;
import java.util.HashMap;
import java.util.List;
import java.util.Map;
import java.util.regex.Matcher;
import java.util.regex.Pattern;

/** One call of the face, written as in addParcel(10, 0) or split(1, 30, {0,2}). */
final class Call {
  private static final Pattern FORM = Pattern.compile("(\\w+)\\((.*)\\)");
  private static final Pattern ARGUMENT = Pattern.compile("'.'|\\{[^}]*\\}|[^,\\s]+");
  private static final Map<String, Method> METHODS = methods();

  final String name;
  private final Method method;
  private final Object[] args;

  private Call(String name, Object[] args) {
    this.name = name;
    this.args = args;
    method = METHODS.get(name);
    if (method == null || method.getParameterCount() != args.length) {
      throw new IllegalArgumentException("no such call: " + name + " of " + args.length);
    }
  }

  private static Map<String, Method> methods() {
    Map<String, Method> all = new HashMap<>();
    for (Method method : ParcelRegistry.class.getDeclaredMethods()) {
      all.put(method.getName(), method);
    }
    return all;
  }

  static Call of(String name, Object... args) {
    return new Call(name, args);
  }

  static Call parse(String text) {
    Matcher form = FORM.matcher(text.trim());
    if (!form.matches() || !METHODS.containsKey(form.group(1))) {
      throw new IllegalArgumentException("not a call: " + text);
    }
    Class<?>[] types = METHODS.get(form.group(1)).getParameterTypes();
    List<Object> args = new ArrayList<>();
    Matcher argument = ARGUMENT.matcher(form.group(2));
    while (argument.find()) {
      if (args.size() == types.length) {
        throw new IllegalArgumentException("too many arguments: " + text);
      }
      args.add(value(argument.group(), types[args.size()]));
    }
    return new Call(form.group(1), args.toArray());
  }

  private static Object value(String text, Class<?> type) {
    if (type == boolean.class) {
      return Boolean.valueOf(text);
    }
    if (type == char.class) {
      return text.startsWith("'") ? text.charAt(1) : (char) Integer.parseInt(text);
    }
    if (type == double.class) {
      String[] parts = text.split("/");
      double first = Double.parseDouble(parts[0]);
      return parts.length == 1 ? first : first / Double.parseDouble(parts[1]);
    }
    return number(text);
  }

  /** Sets are written {0,3}, runs of numbers in them {0-22}. */
  private static int number(String text) {
    if (!text.startsWith("{")) {
      return text.equals("MIN") ? Integer.MIN_VALUE
          : text.equals("MAX") ? Integer.MAX_VALUE : Integer.parseInt(text);
    }
    int set = 0;
    for (String part : text.substring(1, text.length() - 1).split(",")) {
      if (!part.isBlank()) {
        String[] ends = part.trim().split("-");
        for (int k = Integer.parseInt(ends[0]); k <= Integer.parseInt(ends[ends.length - 1]); k++) {
          set |= 1 << k;
        }
      }
    }
    return set;
  }

  /** An answer that is due, in the words of answerOf. */
  String due(String text) {
    return String.valueOf(value(text, method.getReturnType()));
  }

  /** The answer, or ! and the very class that was thrown, without its Exception at the end. */
  String answerOf(ParcelRegistry x) {
    try {
      return String.valueOf(method.invoke(x, args));
    } catch (InvocationTargetException thrown) {
      String type = thrown.getCause().getClass().getName();
      return "! " + type.replaceAll("^java\\.(lang|util)\\.|Exception$", "");
    } catch (IllegalAccessException thrown) {
      throw new IllegalStateException(thrown);
    }
  }

  /** The document's own list of changes, under History. */
  boolean isChange() {
    switch (name) {
      case "addParcel", "border", "split", "merge", "deed", "addEasement", "endEasement", "addLien",
          "release", "postpone", "advance", "read":
        return true;
      default:
        return false;
    }
  }

  @Override
  public String toString() {
    List<String> texts = new ArrayList<>();
    for (Object arg : args) {
      texts.add(arg instanceof Character ? "'" + arg + "'" : String.valueOf(arg));
    }
    return name + "(" + String.join(", ", texts) + ")";
  }
}
