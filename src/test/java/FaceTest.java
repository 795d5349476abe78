import java.io.IOException;
import java.lang.reflect.Constructor;
import java.lang.reflect.Field;
import java.lang.reflect.Method;
import java.lang.reflect.Modifier;
import java.nio.file.Files;
import java.nio.file.Path;
import java.util.ArrayList;
import java.util.List;
import java.util.TreeSet;

/** The public face to the letter, and those rules of LANGUAGE.md that a look at the text can test. */
final class FaceTest {
  private static final Due DUE = new Due();
  private static final String SOURCE = "src/main/java/ParcelRegistry.java";

  private static final String[] FACE = {
    "int access(int,int) Index Argument",
    "int account(int) Argument",
    "int addEasement(int,int,int) Index Argument State",
    "int addLien(int,int,int) Index Argument State",
    "int addParcel(int,int) Argument State",
    "int advance(int) Argument State",
    "int append(char) Argument State",
    "boolean border(int,int,boolean) Index Argument State",
    "int borders(int,int) Index State Absent",
    "int clear()",
    "int deed(int,int,int,int) Index Argument State",
    "int deedOf(int,int,int) Index Argument",
    "int easement(int,int) Index Argument",
    "int easements(int,boolean) Index",
    "int endEasement(int) Index State",
    "int errorPosition() Absent",
    "int holder(int,int) Index Absent",
    "int holders(int) Index",
    "int holdings(int) Index",
    "int left(int,int) Index Argument State",
    "int lien(int,int) Index Argument",
    "int lienAt(int,int) Index Absent",
    "double meanArea(int) Index Arithmetic",
    "int merge(int,int) Index Argument Refused",
    "int needed(int,int) Index Absent",
    "int needless(int) Index",
    "int origins(int) Index",
    "int paid(int,int,int) Index Argument State",
    "int parcel(int,int) Index Argument",
    "int partners(int) Index",
    "int postpone(int,int) Index State",
    "int read() Argument State",
    "int reason() Absent",
    "int release(int) Index State",
    "int remains(int) Index",
    "int restore() State",
    "int save()",
    "int split(int,int,int) Index Refused",
    "int undo() Absent",
  };

  public static void main(String[] args) throws IOException {
    faceIsAsTold();
    restIsHidden();
    fewFields();
    List<String> lines = Files.readAllLines(Path.of(SOURCE));
    wordsThatAreRuledOut(lines);
    nothingIsMadeInCalls(lines);
    methodsAreShort(lines);
    DUE.finish();
  }

  private static String shortName(Class<?> thrown) {
    return thrown.getSimpleName()
        .replace("IndexOutOfBoundsException", "Index")
        .replace("IllegalArgumentException", "Argument")
        .replace("IllegalStateException", "State")
        .replace("NoSuchElementException", "Absent")
        .replace("ArithmeticException", "Arithmetic")
        .replace("UnsupportedOperationException", "Refused");
  }

  private static String told(Method method) {
    StringBuilder text = new StringBuilder();
    text.append(method.getReturnType().getSimpleName()).append(' ').append(method.getName());
    List<String> types = new ArrayList<>();
    for (Class<?> type : method.getParameterTypes()) {
      types.add(type.getSimpleName());
    }
    text.append('(').append(String.join(",", types)).append(')');
    for (Class<?> thrown : method.getExceptionTypes()) {
      text.append(' ').append(shortName(thrown));
    }
    return text.toString();
  }

  private static void faceIsAsTold() {
    TreeSet<String> due = new TreeSet<>(List.of(FACE));
    TreeSet<String> got = new TreeSet<>();
    for (Method method : ParcelRegistry.class.getDeclaredMethods()) {
      if (!Modifier.isPrivate(method.getModifiers())) {
        got.add(told(method));
        DUE.isTrue(told(method) + " is public and no more",
            method.getModifiers() == Modifier.PUBLIC);
      }
    }
    for (String method : due) {
      DUE.isTrue("the face has " + method, got.contains(method));
    }
    for (String method : got) {
      DUE.isTrue("the document has " + method, due.contains(method));
    }
    int modifiers = ParcelRegistry.class.getModifiers();
    DUE.isTrue("public and final", modifiers == (Modifier.PUBLIC | Modifier.FINAL));
    Constructor<?>[] constructors = ParcelRegistry.class.getDeclaredConstructors();
    DUE.isTrue("one public constructor without parameters", constructors.length == 1
        && constructors[0].getModifiers() == Modifier.PUBLIC
        && constructors[0].getParameterCount() == 0);
  }

  private static void restIsHidden() {
    TreeSet<String> names = new TreeSet<>();
    for (String method : FACE) {
      names.add(method.substring(method.indexOf(' ') + 1, method.indexOf('(')));
    }
    for (Field field : ParcelRegistry.class.getDeclaredFields()) {
      DUE.isTrue(field.getName() + " is private", Modifier.isPrivate(field.getModifiers()));
    }
    for (Method method : ParcelRegistry.class.getDeclaredMethods()) {
      DUE.isTrue(method.getName() + " is of the face or has another name",
          !Modifier.isPrivate(method.getModifiers()) || !names.contains(method.getName()));
    }
    Class<?>[] inside = ParcelRegistry.class.getDeclaredClasses();
    DUE.isTrue("at most eleven classes inside", inside.length <= 11);
    for (Class<?> type : inside) {
      DUE.isTrue(type.getName() + " is static and not public", Modifier.isStatic(type.getModifiers())
          && !Modifier.isPublic(type.getModifiers()) && !Modifier.isProtected(type.getModifiers()));
      for (Method method : type.getDeclaredMethods()) {
        DUE.isTrue(method.getName() + " inside has another name than the face's",
            !names.contains(method.getName()));
      }
    }
  }

  private static void fewFields() {
    List<Class<?>> all = new ArrayList<>(List.of(ParcelRegistry.class.getDeclaredClasses()));
    all.add(ParcelRegistry.class);
    for (Class<?> type : all) {
      int own = 0;
      for (Field field : type.getDeclaredFields()) {
        boolean isStatic = Modifier.isStatic(field.getModifiers());
        own += isStatic ? 0 : 1;
        DUE.isTrue(field + " is final where it is static",
            !isStatic || Modifier.isFinal(field.getModifiers()));
      }
      DUE.isTrue(type.getName() + " has at most twenty fields", own <= 20);
      for (Method method : type.getDeclaredMethods()) {
        DUE.isTrue(method.getName() + " takes at most seven parameters",
            method.getParameterCount() <= 7);
      }
    }
  }

  private static void wordsThatAreRuledOut(List<String> lines) {
    String[] words = {" try {", "catch", "finally", "->", "::", "synchronized", "assert ", "instanceof",
        "static {", "package ", "String.", "Thread", "System.out", "System.nano", "System.current",
        "Exact(", "equals(", "hashCode", "while (true)", "for (;;)", ".ordinal(", "@"};
    for (int k = 0; k < lines.size(); k++) {
      String line = lines.get(k);
      for (String word : words) {
        DUE.isTrue("line " + (k + 1) + " is without " + word, !line.contains(word));
      }
      DUE.isTrue("line " + (k + 1) + " imports what the document does", !line.startsWith("import ")
          || line.equals("import java.util.NoSuchElementException;"));
      DUE.isTrue("line " + (k + 1) + " is plain ASCII", line.chars().allMatch(c -> c >= 32 && c < 127));
    }
  }

  /** Arrays and objects are made with a registry, so that no run of calls needs more room. */
  private static void nothingIsMadeInCalls(List<String> lines) {
    boolean isConstructor = false;
    for (int k = 0; k < lines.size(); k++) {
      String line = lines.get(k);
      if (line.equals("  public ParcelRegistry() {") || line.equals("    History() {")) {
        isConstructor = true;
      }
      if (line.equals("  }") || line.equals("    }")) {
        isConstructor = false;
      }
      boolean isField = line.matches(" {4}(private )?final \\w+(\\[\\])? \\w+ = new .*");
      boolean isMaking = line.matches(".*\\bnew \\w+[\\[(<].*") && !line.contains("throw new ");
      DUE.isTrue("line " + (k + 1) + " makes nothing in a call", !isMaking || isField || isConstructor);
    }
  }

  /** A method ends with the first line of its own indentation that is a brace. */
  private static void methodsAreShort(List<String> lines) {
    int methods = 0;
    for (int k = 0; k < lines.size(); k++) {
      String line = lines.get(k);
      if (line.matches("(  |    )[a-z]\\w* .*\\(.*") && !line.contains(";")) {
        String end = line.replaceFirst("\\S.*", "}");
        int last = k + lines.subList(k, lines.size()).indexOf(end);
        DUE.isTrue("line " + (k + 1) + " begins a method of at most sixty lines",
            last > k && last - k < 60);
        methods++;
      }
    }
    DUE.isTrue("the lines have the methods of the face and more", methods > 2 * FACE.length);
  }
}
