import java.io.IOException;
import java.nio.file.Files;
import java.nio.file.Path;
import java.util.ArrayList;
import java.util.List;
import java.util.Set;
import java.util.TreeSet;
import java.util.stream.Stream;

/**
 * Runs the scripts of src/test/sentences: each sentence of the document, and below it the runs of
 * calls that would go another way if it did not hold. Every sentence must have one, and every
 * sentence there must be the document's, to the letter.
 */
final class SentenceTest {
  private static final Path DOCUMENT = Path.of("../shared/DOC.md");
  private static final Path SCRIPTS = Path.of("src/test/sentences");

  private final Set<String> due;
  private final Set<String> told = new TreeSet<>();
  private String section = "";
  private String sentence = "";
  private String place = "";
  private boolean isSentenceOpen = false;
  private Script script = null;
  private int scripts = 0;
  private int calls = 0;
  private int wrong = 0;

  private SentenceTest(Set<String> due) {
    this.due = due;
  }

  public static void main(String[] args) throws IOException {
    SentenceTest test = new SentenceTest(Document.sentencesOf(DOCUMENT));
    for (Path file : files()) {
      test.take(file);
    }
    test.finish();
  }

  private static List<Path> files() throws IOException {
    try (Stream<Path> all = Files.list(SCRIPTS)) {
      return all.filter(file -> file.toString().endsWith(".txt")).sorted().toList();
    }
  }

  private void take(Path file) throws IOException {
    List<String> lines = new ArrayList<>(Files.readAllLines(file));
    for (int k = 0; k < lines.size(); k++) {
      place = file.getFileName() + ":" + (k + 1);
      take(lines.get(k).trim());
    }
    endScript();
  }

  private void take(String line) {
    if (line.isEmpty() || line.startsWith("#")) {
      return;
    }
    if (line.startsWith("== ")) {
      endScript();
      section = line.substring(3);
    } else if (line.startsWith("> ")) {
      endScript();
      sentence = isSentenceOpen ? sentence + " " + line.substring(2) : line.substring(2);
    } else if (line.equals("--")) {
      endScript();
    } else if (line.startsWith("see ")) {
      see(line.substring(4));
    } else {
      step(line);
    }
    isSentenceOpen = line.startsWith("> ");
  }

  /** A sentence that no run can tell is another test's. */
  private void see(String test) {
    tell();
    if (!Files.exists(Path.of("src/test/java", test + ".java"))) {
      fault("there is no " + test);
    }
  }

  private void step(String line) {
    if (script == null) {
      script = new Script();
      scripts++;
      tell();
    }
    int faults = script.faults().size();
    try {
      script.step(line);
    } catch (IllegalArgumentException wrongLine) {
      fault(wrongLine.getMessage());
    }
    for (String text : script.faults().subList(faults, script.faults().size())) {
      fault(text);
    }
  }

  private void tell() {
    String key = Document.key(section, sentence);
    if (told.add(key) && !due.contains(key)) {
      fault("not a sentence of the document: " + key);
    }
  }

  private void fault(String text) {
    wrong++;
    System.out.println(place + ": " + text + "\n    in: " + section + ": " + sentence);
  }

  private void endScript() {
    if (script != null) {
      calls += script.calls();
      script = null;
    }
  }

  private void finish() {
    int open = 0;
    for (String key : due) {
      if (!told.contains(key)) {
        open++;
        System.out.println("without a test: " + key);
      }
    }
    System.out.println(due.size() + " sentences, " + scripts + " runs, " + calls + " calls, "
        + wrong + " faults, " + open + " sentences without a test");
    if (wrong != 0 || open != 0 || due.size() < 200) {
      System.exit(1);
    }
  }
}
