import java.io.IOException;
import java.nio.file.Files;
import java.nio.file.Path;
import java.util.ArrayList;
import java.util.List;
import java.util.regex.Matcher;
import java.util.regex.Pattern;

/** README.md in its parts: the blocks between fences, the rows of the tables, and the prose. */
final class Readme {
  /** The lines between two fences; number is that of the first one of them in the page. */
  record Block(String language, int number, List<String> lines) {
    boolean isProgram() {
      return language.equals("java") && lines.get(0).startsWith("public final class ");
    }

    String className() {
      return lines.get(0).split(" ")[3];
    }
  }

  private static final Pattern QUOTED = Pattern.compile("`([^`]+)`");

  final List<Block> blocks = new ArrayList<>();
  /** The cells of each row of each table, the heads too. */
  final List<List<String>> rows = new ArrayList<>();
  /** What stands outside the blocks between two signs `. */
  final List<String> quoted = new ArrayList<>();

  Readme(Path file) throws IOException {
    List<String> lines = Files.readAllLines(file);
    for (int k = 0; k < lines.size(); k++) {
      String line = lines.get(k);
      if (line.startsWith("```")) {
        int end = k + 1;
        while (end < lines.size() && !lines.get(end).equals("```")) {
          end++;
        }
        blocks.add(new Block(line.substring(3), k + 2, lines.subList(k + 1, end)));
        k = end;
      } else {
        take(line);
      }
    }
  }

  private void take(String line) {
    Matcher matcher = QUOTED.matcher(line);
    while (matcher.find()) {
      quoted.add(matcher.group(1));
    }
    if (line.startsWith("| ")) {
      List<String> cells = new ArrayList<>();
      for (String cell : line.substring(1).split("\\|")) {
        cells.add(cell.trim().replace("`", ""));
      }
      rows.add(cells);
    }
  }

  List<Block> blocksOf(String language) {
    return blocks.stream().filter(block -> block.language().equals(language)).toList();
  }

  /** The rows below the head that begins with this cell. */
  List<List<String>> rowsBelow(String head, String next) {
    int first = 0;
    while (first < rows.size() && !rows.get(first).subList(0, 2).equals(List.of(head, next))) {
      first++;
    }
    int end = first + 1;
    while (end < rows.size() && !isHead(rows.get(end))) {
      end++;
    }
    return first < rows.size() ? rows.subList(first + 1, end) : List.of();
  }

  private static boolean isHead(List<String> row) {
    return List.of("promise", "exception", "reason", "command", "test").contains(row.get(0));
  }
}
