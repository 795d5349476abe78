import java.lang.reflect.InvocationTargetException;
import java.lang.reflect.Method;
import java.util.Arrays;
import java.util.HashMap;
import java.util.Map;
import java.util.Random;

/**
 * Runs of calls from fixed seeds, each call made of the class and of Model; the answers and the
 * exceptions must be the same, and now and then everything that can be asked.
 */
final class RandomRunsTest {
  private static final int RUNS = 300;
  private static final int CALLS = 512;

  private static final String[] ANY = {
    "addParcel", "border", "split", "merge", "deed", "addEasement", "endEasement", "addLien",
    "release", "postpone", "advance", "text", "undo", "save", "restore", "clear", "append", "ask",
    "border", "split", "merge", "deed", "deed", "addEasement", "addLien", "text", "text", "undo",
  };
  // Every second call of a run comes from its theme, so that there are long chains, many liens, ...
  private static final String[][] THEMES = {
    ANY,
    {"deed", "deed", "deed", "advance", "ask"},
    {"addEasement", "addEasement", "endEasement", "border", "split", "merge", "merge"},
    {"addLien", "addLien", "release", "postpone", "postpone", "split", "merge"},
    {"advance", "advance", "text", "undo"},
    {"addParcel", "border", "border", "split", "merge", "merge"},
  };

  private final Random random;
  private final ParcelRegistry x = new ParcelRegistry();
  private final Model model = new Model();
  private final boolean isWild;
  private final String[] theme;
  private final int run;
  private final Map<String, Method> ofClass = methodsOf(ParcelRegistry.class);
  private final Map<String, Method> ofModel = methodsOf(Model.class);
  private int wrong = 0;

  private RandomRunsTest(int run) {
    this.run = run;
    random = new Random(run);
    isWild = run % 7 == 6;
    theme = THEMES[run % THEMES.length];
  }

  private static Map<String, Method> methodsOf(Class<?> type) {
    Map<String, Method> methods = new HashMap<>();
    for (Method method : type.getDeclaredMethods()) {
      methods.put(method.getName(), method);
    }
    return methods;
  }

  public static void main(String[] args) {
    int wrong = 0;
    for (int run = 0; run < RUNS && wrong < 20; run++) {
      wrong += new RandomRunsTest(run).go();
    }
    System.out.println(RUNS + " runs of " + CALLS + " calls, " + wrong + " answers not as due");
    if (wrong != 0) {
      System.exit(1);
    }
  }

  private int go() {
    for (int call = 0; call < CALLS && wrong == 0; call++) {
      step(call);
      if (call % 40 == 39) {
        askAll();
      }
    }
    return wrong;
  }

  // ---- comparing

  private void compare(String name, Object... args) {
    if (wrong != 0) {
      return;
    }
    String due = outcome(model, ofModel.get(name), args);
    String got = outcome(x, ofClass.get(name), args);
    if (!due.equals(got)) {
      wrong++;
      System.out.println("run " + run + ": " + name + Arrays.toString(args) + " answered " + got
          + ", due is " + due);
    }
  }

  private static String outcome(Object of, Method method, Object[] args) {
    try {
      return String.valueOf(method.invoke(of, args));
    } catch (InvocationTargetException thrown) {
      return thrown.getCause().getClass().getName();
    } catch (IllegalAccessException thrown) {
      throw new IllegalStateException(thrown);
    }
  }

  // ---- choosing arguments

  private boolean happens(int oneOf) {
    return random.nextInt(oneOf) == 0;
  }

  private int edge() {
    int[] edges = {-1, -2, 0, 1, 3, 4, 9, 10, 11, 23, 24, 29, 30, 31, 32, 33, 80, 998, 999, 1000, 9989,
        9990, 9999, 10000, 1000000, 1000001, Integer.MAX_VALUE, Integer.MIN_VALUE};
    return edges[random.nextInt(edges.length)];
  }

  private int below(int many) {
    return happens(isWild ? 6 : 80) ? edge() : random.nextInt(Math.max(1, many));
  }

  private Model.Parcel known(int parcel) {
    boolean is = parcel >= 0 && parcel < model.now.parcels.size();
    return is ? model.now.parcels.get(parcel) : null;
  }

  private int aParcel() {
    int many = model.now.parcels.size();
    for (int k = 0; k < 20 && many > 0 && !happens(80); k++) {
      int number = random.nextInt(many);
      if (model.now.parcels.get(number).last == -1) {
        return number;
      }
    }
    return below(many + 1);
  }

  private int aNeighbour(int parcel) {
    if (known(parcel) == null || known(parcel).neighbours.isEmpty() || happens(8)) {
      return aParcel();
    }
    Integer[] all = known(parcel).neighbours.toArray(new Integer[0]);
    return all[random.nextInt(all.length)];
  }

  private int aPerson() {
    return happens(3) ? below(10) : below(3);
  }

  private int aDay(int parcel) {
    if (known(parcel) == null || happens(12)) {
      return below(model.now.day + 2);
    }
    int first = known(parcel).first;
    return first + random.nextInt(Math.max(1, model.now.day - first + 1));
  }

  private int aGrantor(int parcel, int day) {
    return known(parcel) == null || happens(2) ? aPerson() : known(parcel).holderOf(day);
  }

  private int anArea(int parcel) {
    int whole = known(parcel) == null ? 100 : known(parcel).area;
    int[] areas = {9, 10, whole - 10, whole - 9, whole / 2, whole / 3, whole};
    return happens(3) ? areas[random.nextInt(areas.length)] : below(whole);
  }

  private int aSet(int parcel) {
    if (known(parcel) == null || happens(12)) {
      return random.nextInt();
    }
    int set = 0;
    for (int number : known(parcel).neighbours) {
      set |= 1 << number;
    }
    return set & random.nextInt() | (happens(20) ? 1 << random.nextInt(32) : 0);
  }

  private int aPrice() {
    int[] prices = {0, 1, 1000000, 200, 3000, 20000, 60000, 120000};
    return happens(12) ? edge() : random.nextInt(1 + prices[random.nextInt(prices.length)]);
  }

  // ---- choosing calls

  private void step(int call) {
    boolean isFew = model.now.parcels.size() < 3 || call < 12;
    if (isFew && happens(2)) {
      change("addParcel");
    } else {
      change(happens(2) ? theme[random.nextInt(theme.length)] : ANY[random.nextInt(ANY.length)]);
    }
  }

  private void change(String name) {
    int parcel = aParcel();
    int day = aDay(parcel);
    int liens = model.now.liens.size();
    switch (name) {
      case "addParcel" -> compare(name, happens(4) ? below(11000) : 10 + below(900), aPerson());
      case "border" -> compare(name, parcel, aParcel(), !happens(6));
      case "split" -> compare(name, parcel, anArea(parcel), aSet(parcel));
      case "merge" -> compare(name, parcel, aNeighbour(parcel));
      case "deed" -> compare(name, parcel, aGrantor(parcel, day), aPerson(), day);
      case "addEasement" -> compare(name, happens(3) ? below(4) : 0, parcel, aNeighbour(parcel));
      case "endEasement" -> compare(name, below(model.now.easements.size()));
      case "addLien" -> compare(name, parcel, aPerson(), below(400));
      case "release" -> compare(name, below(liens));
      case "postpone" -> compare(name, below(liens), below(liens));
      case "advance" -> compare(name, theme == THEMES[4] ? below(1010) : below(9));
      case "text" -> readText();
      case "append" -> compare(name, (char) (happens(2) ? edge() : 32 + random.nextInt(95)));
      case "ask" -> ask(parcel, day);
      case "undo" -> compare(name);
      default -> seldom(name);
    }
  }

  private void seldom(String name) {
    if (name.equals("save") ? happens(2) : happens(8)) {
      compare(name);
      ask(aParcel(), below(10));
    }
  }

  private void ask(int parcel, int day) {
    compare("parcel", parcel, below(10));
    compare("partners", parcel);
    compare("reason");
    compare("holder", parcel, day);
    compare("needless", parcel);
    compare("access", parcel, below(4));
    compare("borders", parcel, aParcel());
    compare("paid", parcel, aPrice(), aPerson());
    compare("left", parcel, aPrice());
    compare("needed", below(model.now.liens.size()), parcel);
  }

  private String aCommand() {
    int parcel = aParcel();
    int today = model.now.day;
    int far = happens(9) ? random.nextInt(9999) : random.nextInt(20);
    return switch (random.nextInt(6)) {
      case 0 -> command("split", parcel, anArea(parcel));
      case 1 -> command("merge", parcel, aNeighbour(parcel));
      case 2 -> command("deed", parcel, aGrantor(parcel, today), aPerson());
      case 3 -> command("way", parcel, aParcel());
      case 4 -> command("lien", parcel, aPerson(), random.nextInt(300));
      default -> command("days", far);
    };
  }

  private String command(String word, int... numbers) {
    StringBuilder text = new StringBuilder(word);
    for (int number : numbers) {
      text.append(' ').append(happens(9) ? "0" : "").append(Math.floorMod(number, 10000));
    }
    return text.append(';').toString();
  }

  private String aText() {
    StringBuilder text = new StringBuilder();
    int many = happens(3) ? 1 + random.nextInt(12) : 1 + random.nextInt(3);
    for (int k = 0; k < many; k++) {
      text.append(aCommand());
    }
    if (happens(4)) {
      String signs = "abcdefghijklmnopqrstuvwxyz0123456789 ;  ;;:/`{-";
      char sign = signs.charAt(random.nextInt(signs.length()));
      int place = random.nextInt(text.length());
      switch (random.nextInt(4)) {
        case 0 -> text.setCharAt(place, sign);
        case 1 -> text.insert(place, sign);
        case 2 -> text.deleteCharAt(place);
        default -> text.setLength(place);
      }
    }
    return text.toString();
  }

  private void readText() {
    String text = aText();
    for (int k = 0; k < text.length(); k++) {
      compare("append", text.charAt(k));
    }
    compare("read");
    compare("errorPosition");
    compare("reason");
  }

  // ---- everything that can be asked, of all numbers that there are and one more on each side

  private void askAll() {
    for (int parcel = -1; parcel <= model.now.parcels.size(); parcel++) {
      askOfParcel(parcel);
      askOfChain(parcel);
      askOfPayment(parcel);
    }
    for (int easement = -1; easement <= model.now.easements.size(); easement++) {
      for (int what = -1; what <= 5; what++) {
        compare("easement", easement, what);
      }
    }
    for (int lien = -1; lien <= model.now.liens.size(); lien++) {
      for (int what = -1; what <= 4; what++) {
        compare("lien", lien, what);
      }
    }
    for (int number = -1; number <= 11; number++) {
      compare("holdings", number);
      compare("account", number);
      compare("meanArea", number);
    }
    compare("reason");
    compare("errorPosition");
  }

  private void askOfParcel(int parcel) {
    for (int what = -1; what <= 10; what++) {
      compare("parcel", parcel, what);
    }
    for (String name : new String[] {"origins", "remains", "partners", "holders", "needless"}) {
      compare(name, parcel);
    }
    compare("easements", parcel, true);
    compare("easements", parcel, false);
    for (int kind = -1; kind <= 4; kind++) {
      compare("access", parcel, kind);
    }
    compare("borders", parcel, aParcel());
    compare("borders", parcel, below(model.now.parcels.size()));
  }

  private void askOfChain(int parcel) {
    for (int k = 0; k < 5; k++) {
      compare("holder", parcel, aDay(parcel));
    }
    int deeds = known(parcel) == null ? 0 : known(parcel).chain.size();
    for (int index = -1; index <= deeds; index++) {
      for (int what = -1; what <= 4; what++) {
        compare("deedOf", parcel, index, what);
      }
    }
  }

  private void askOfPayment(int parcel) {
    for (int place = -1; place < 4; place++) {
      compare("lienAt", parcel, place);
    }
    for (int k = 0; k < 3; k++) {
      compare("paid", parcel, aPrice(), aPerson());
      compare("left", parcel, aPrice());
    }
    for (int lien = -1; lien <= model.now.liens.size(); lien++) {
      compare("needed", lien, parcel);
    }
  }
}
