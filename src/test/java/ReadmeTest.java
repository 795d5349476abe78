import java.io.File;
import java.io.IOException;
import java.nio.file.Files;
import java.nio.file.Path;
import java.nio.file.StandardCopyOption;
import java.util.ArrayList;
import java.util.Comparator;
import java.util.List;
import java.util.Set;
import java.util.TreeSet;
import java.util.concurrent.TimeUnit;
import java.util.regex.Matcher;
import java.util.regex.Pattern;
import java.util.stream.Stream;

/**
 * README.md holds: what it shows of the class compiles and answers as it says, its tables are those
 * of the document and of the tests, and its commands run, typed in the root of a copy of the project.
 */
final class ReadmeTest {
  /** Tells .ci/run that README.md's own command has started it, so that it ends. */
  private static final String INSIDE = "PARCEL_README_TEST";
  private static final int MOST_SECONDS = 900;
  private static final int CALLS = 39;
  private static final Path SOURCE = Path.of("src/main/java/ParcelRegistry.java");
  private static final Path DOCUMENT = Path.of("../shared/DOC.md");

  private final Due due = new Due();
  private final Readme readme = new Readme(Path.of("README.md"));
  private final String document = Files.readString(DOCUMENT);
  private final Path base;
  private final Path root;

  private ReadmeTest(Path base) throws IOException {
    this.base = base;
    root = base.resolve("main");
  }

  public static void main(String[] args) throws IOException, InterruptedException {
    Path base = Files.createTempDirectory("readme");
    try {
      new ReadmeTest(base).go();
    } finally {
      remove(base);
    }
  }

  private void go() throws IOException, InterruptedException {
    copyProject();
    everyBlockIsTested();
    snippetsAnswerAsTold();
    programsAndCommandsRun();
    sentencesRun();
    callsAreTheDocuments();
    choicesAreTheDocuments();
    reasonsAreTheDocuments();
    exceptionsAreTheDocuments();
    textsAreRight();
    testsAreThere();
    pathsAreThere();
    // It may end the program, and then what was made must be gone.
    remove(base);
    due.finish();
  }

  private void count(String what, int wanted, int got) {
    due.isTrue(what + ": " + got + ", which are to be " + wanted + ",", got == wanted);
  }

  // ---- the copy of the project

  private static void remove(Path folder) throws IOException {
    if (!Files.exists(folder)) {
      return;
    }
    try (Stream<Path> all = Files.walk(folder)) {
      for (Path path : all.sorted(Comparator.reverseOrder()).toList()) {
        Files.delete(path);
      }
    }
  }

  private void copyProject() throws IOException {
    Files.createDirectory(root);
    for (String name : List.of("README.md", ".ci", "src")) {
      try (Stream<Path> all = Files.walk(Path.of(name))) {
        for (Path path : all.toList()) {
          Path twin = root.resolve(path.toString());
          if (Files.isDirectory(path)) {
            Files.createDirectory(twin);
          } else {
            Files.copy(path, twin, StandardCopyOption.COPY_ATTRIBUTES);
          }
        }
      }
    }
    Files.createSymbolicLink(base.resolve("shared"), Path.of("../shared").toRealPath());
  }

  // ---- blocks

  private void everyBlockIsTested() {
    due.isTrue("there are examples and commands", readme.blocks.size() > 10);
    for (int k = 0; k < readme.blocks.size(); k++) {
      Readme.Block block = readme.blocks.get(k);
      due.isTrue("line " + block.number() + ": a block of java, sh, text or sentences",
          List.of("java", "sh", "text", "sentences").contains(block.language()));
      due.isTrue("line " + block.number() + ": there is something in the block",
          !block.lines().isEmpty());
      due.isTrue("line " + block.number() + ": output stands behind commands",
          !block.language().equals("text") || readme.blocks.get(k - 1).language().equals("sh"));
    }
  }

  private void snippetsAnswerAsTold() throws IOException, InterruptedException {
    Snippets snippets = new Snippets();
    for (Readme.Block block : readme.blocksOf("java")) {
      if (!block.isProgram()) {
        snippets.add(block);
      }
    }
    due.isTrue("the examples have calls with answers", snippets.claims() > 50);
    Path folder = Files.createDirectory(base.resolve("snippets"));
    Files.writeString(folder.resolve("ReadmeSnippets.java"), snippets.program());
    String source = SOURCE.toAbsolutePath().toString();
    runs(folder, List.of("javac", "-encoding", "UTF-8", "-d", ".", "ReadmeSnippets.java", source));
    runs(folder, List.of("java", "-cp", ".", "ReadmeSnippets"));
  }

  private void programsAndCommandsRun() throws IOException, InterruptedException {
    for (Readme.Block block : readme.blocksOf("java")) {
      if (block.isProgram()) {
        String file = block.className() + ".java";
        due.isTrue("the page names " + file, readme.quoted.contains(file));
        Files.write(root.resolve(file), block.lines());
      }
    }
    boolean isAllRun = false;
    for (int k = 0; k < readme.blocks.size(); k++) {
      if (readme.blocks.get(k).language().equals("sh")) {
        String output = "";
        for (String line : readme.blocks.get(k).lines()) {
          output = runs(root, List.of("bash", "-c", line));
          isAllRun |= line.equals(".ci/run");
        }
        compareOutput(k + 1, output);
      }
    }
    due.isTrue("the page has the command for all tests", isAllRun);
  }

  private void compareOutput(int next, String output) {
    if (next < readme.blocks.size() && readme.blocks.get(next).language().equals("text")) {
      String told = String.join("\n", readme.blocks.get(next).lines());
      due.isTrue("the output, which is\n" + output + "\nas told", output.equals(told));
    }
  }

  /** The output of a command, whose exit code must be 0. */
  private String runs(Path folder, List<String> command) throws IOException, InterruptedException {
    File output = base.resolve("output.txt").toFile();
    ProcessBuilder builder = new ProcessBuilder(command);
    builder.directory(folder.toFile());
    builder.environment().put(INSIDE, "1");
    builder.redirectErrorStream(true);
    builder.redirectOutput(output);
    Process process = builder.start();
    boolean isOver = process.waitFor(MOST_SECONDS, TimeUnit.SECONDS);
    if (!isOver) {
      process.destroyForcibly();
    }
    String text = Files.readString(output.toPath()).strip();
    boolean isFine = isOver && process.exitValue() == 0;
    due.isTrue(String.join(" ", command) + " runs" + (isFine ? "" : ", which tells\n" + text + "\nthis"),
        isFine);
    return text;
  }

  private void sentencesRun() throws IOException {
    Set<String> sentences = Document.sentencesOf(DOCUMENT);
    due.isTrue("the page shows the form of the sentences", readme.blocksOf("sentences").size() == 1);
    for (Readme.Block block : readme.blocksOf("sentences")) {
      String section = "";
      Script script = new Script();
      for (String line : block.lines()) {
        String text = line.split(" {3,}")[0];
        if (text.startsWith("== ")) {
          section = text.substring(3);
        } else if (text.startsWith("> ")) {
          String key = Document.key(section, text.substring(2));
          due.isTrue("the document has: " + key, sentences.contains(key));
        } else if (text.equals("--")) {
          endScript(script);
          script = new Script();
        } else {
          script.step(text);
        }
      }
      endScript(script);
    }
  }

  private void endScript(Script script) {
    due.isTrue("the script with the faults " + script.faults(),
        script.calls() > 0 && script.faults().isEmpty());
  }

  // ---- tables

  private void callsAreTheDocuments() {
    List<List<String>> rows = readme.rowsBelow("promise", "call");
    count("how many calls the page has", CALLS, rows.size());
    for (List<String> row : rows) {
      String name = row.get(1).replaceFirst("\\(.*", "");
      String signature = "## Promise " + row.get(0) + ": " + name + "\n\n`\\w+ (\\w+\\([^)]*\\))";
      Matcher told = Pattern.compile(signature).matcher(document);
      String call = told.find() ? told.group(1).replaceAll("\\b(int|char|boolean) ", "") : "none";
      due.isTrue("the page's " + row.get(1) + ", for which the document has " + call + ",",
          call.equals(row.get(1)));
    }
  }

  /** The page's "0: area; 1: first day" stands for "0 for its area, 1 for its first day". */
  private void choicesAreTheDocuments() {
    int tables = 0;
    for (List<String> row : readme.rowsBelow("promise", "call")) {
      String promise = "## Promise " + row.get(0) + ": [^#]*?\n- `(?:what|account)`: (.*)";
      Matcher told = Pattern.compile(promise).matcher(document);
      boolean isChoice = told.find();
      due.isTrue(row.get(1) + " has numbers as the document has", isChoice == row.get(2).startsWith("0: "));
      if (isChoice) {
        tables++;
        compareChoices(row.get(1), told.group(1).split(", (?=\\d+ for )"), row.get(2).split("; "));
      }
    }
    count("how many calls have such numbers", 5, tables);
  }

  private void compareChoices(String call, String[] told, String[] shown) {
    count("how many numbers " + call + " has", told.length, shown.length);
    for (int k = 0; k < told.length && k < shown.length; k++) {
      String[] parts = shown[k].split(": ");
      due.isTrue(call + " with " + shown[k] + ", for which the document has " + told[k] + ",",
          told[k].startsWith(k + " for ") && parts[0].equals("" + k) && told[k].contains(parts[1]));
    }
  }

  private void reasonsAreTheDocuments() {
    List<List<String>> rows = readme.rowsBelow("reason", "why");
    count("how many reasons the page has", 6, rows.size());
    for (int k = 0; k < rows.size(); k++) {
      List<String> row = rows.get(k);
      String told = (k + 1) + " " + row.get(1);
      due.isTrue("the document's reason " + told,
          row.get(0).equals("" + (k + 1)) && document.replace('\n', ' ').contains(told));
    }
  }

  private void exceptionsAreTheDocuments() {
    TreeSet<String> thrown = new TreeSet<>();
    for (List<String> row : readme.rowsBelow("exception", "what it says")) {
      thrown.add(row.get(0));
    }
    TreeSet<String> told = new TreeSet<>();
    Matcher matcher = Pattern.compile("Throws `(\\w+)`").matcher(document);
    while (matcher.find()) {
      told.add(matcher.group(1));
    }
    due.isTrue("the page's exceptions " + thrown + ", which are the document's " + told + ",",
        thrown.equals(told));
  }

  /** They need not be possible on a new object, but they must be texts of this kind. */
  private void textsAreRight() {
    TreeSet<String> words = new TreeSet<>();
    for (List<String> row : readme.rowsBelow("command", "does what")) {
      ParcelRegistry registry = new ParcelRegistry();
      for (char character : row.get(0).toCharArray()) {
        registry.append(character);
      }
      due.isTrue("the command " + row.get(0) + " is right", isRight(registry));
      words.add(row.get(0).split(" ")[0]);
    }
    count("how many words of commands the page has", 6, words.size());
  }

  private static boolean isRight(ParcelRegistry registry) {
    try {
      registry.read();
    } catch (IllegalArgumentException wrong) {
      return false;
    } catch (IllegalStateException impossible) {
      return true;
    }
    return true;
  }

  private void testsAreThere() throws IOException {
    TreeSet<String> told = new TreeSet<>();
    for (List<String> row : readme.rowsBelow("test", "what it tests")) {
      told.add(row.get(0) + ".java");
    }
    TreeSet<String> there = new TreeSet<>();
    try (Stream<Path> all = Files.list(Path.of("src/test/java"))) {
      all.map(path -> path.getFileName().toString()).filter(name -> name.endsWith("Test.java"))
          .forEach(there::add);
    }
    due.isTrue("the page's tests " + told + ", which are the project's " + there + ",",
        told.equals(there));
  }

  private void pathsAreThere() {
    List<String> paths = new ArrayList<>();
    for (String text : readme.quoted) {
      if (text.contains("/") && !text.contains(" ") && !text.contains("*") && !text.startsWith("//")) {
        paths.add(text);
        due.isTrue("there is a file or folder " + text, Files.exists(Path.of(text)));
      }
    }
    due.isTrue("the page tells where the class lies", paths.contains(SOURCE.toString()));
  }
}
