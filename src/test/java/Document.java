import java.io.IOException;
import java.nio.file.Files;
import java.nio.file.Path;
import java.util.ArrayList;
import java.util.LinkedHashSet;
import java.util.List;
import java.util.Set;
import java.util.regex.Matcher;
import java.util.regex.Pattern;

/** The sentences of ../shared/DOC.md, each with its section: a promise, or a paragraph's name. */
final class Document {
  private static final Pattern PARAGRAPH = Pattern.compile("(Days|Parcels|Splitting|Refusals of parcels"
      + "|Deeds|Easements|Liens|Payment|Text|History|Exceptions|More precisely)\\. (.*)");

  private final Set<String> sentences = new LinkedHashSet<>();
  private String section = "";
  private String block = "";

  /** A sentence as it is known here: behind its section. */
  static String key(String section, String sentence) {
    return section + " > " + sentence;
  }

  static Set<String> sentencesOf(Path file) throws IOException {
    Document document = new Document();
    boolean isCode = false;
    for (String line : Files.readAllLines(file)) {
      if (line.startsWith("```")) {
        isCode = !isCode;
      } else if (!isCode) {
        document.take(line);
      }
    }
    document.endBlock();
    return document.sentences;
  }

  private void take(String line) {
    boolean isStart = line.isBlank() || line.startsWith("#") || line.startsWith("----")
        || line.startsWith("- ") || line.startsWith("Throws ") || line.startsWith("Returns ");
    boolean isSignature = line.startsWith("`") && line.endsWith("`");
    if (isStart || isSignature) {
      endBlock();
    }
    if (line.startsWith("## ")) {
      section = line.substring(3);
    } else if (!line.startsWith("#") && !line.startsWith("----") && !isSignature) {
      block = (block + " " + line.replaceFirst("^- ", "")).trim();
    }
  }

  private void endBlock() {
    Matcher paragraph = PARAGRAPH.matcher(block);
    if (paragraph.matches()) {
      section = paragraph.group(1);
      block = paragraph.group(2);
    }
    List<String> parts = new ArrayList<>(List.of(block.split("(?<=\\.)\\s+(?=[A-Za-z])")));
    for (String part : parts) {
      if (!part.isBlank() && !section.isEmpty() && !section.equals("Not promised")) {
        sentences.add(key(section, part));
      }
    }
    block = "";
  }
}
