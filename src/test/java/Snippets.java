import java.util.regex.Matcher;
import java.util.regex.Pattern;

/**
 * A program of README.md's examples: behind "// ->" stands the answer that is due, behind "// throws"
 * the exception, each up to a colon. A comment of another kind is a fault, since nothing tests it.
 */
final class Snippets {
  private static final Pattern CLAIM = Pattern.compile(
      "(?:(?<type>int|boolean|double) (?<name>\\w+) = )?(?<call>.+);\\s+// (?<kind>->|throws) (?<due>.+?)(?:: .*)?");

  private final StringBuilder methods = new StringBuilder();
  private final StringBuilder runs = new StringBuilder();
  private int snippets = 0;
  private int claims = 0;

  int claims() {
    return claims;
  }

  void add(Readme.Block block) {
    snippets++;
    runs.append("    snippet").append(snippets).append("();\n");
    methods.append("  private static void snippet").append(snippets).append("() {\n");
    for (int k = 0; k < block.lines().size(); k++) {
      addLine("README.md, line " + (block.number() + k), block.lines().get(k));
    }
    methods.append("  }\n\n");
  }

  private void addLine(String place, String line) {
    if (!line.contains("//")) {
      methods.append(line).append('\n');
      return;
    }
    Matcher claim = CLAIM.matcher(line.trim());
    if (!claim.matches()) {
      methods.append("wrong(\"").append(place).append(": neither -> nor throws\");\n");
      return;
    }
    claims++;
    String call = claim.group("call");
    if (claim.group("kind").equals("->")) {
      if (claim.group("name") != null) {
        methods.append(claim.group("type")).append(' ').append(claim.group("name"))
            .append(" = ").append(call).append(";\n");
        call = claim.group("name");
      }
      methods.append("due(\"").append(place).append("\", ").append(call).append(", ")
          .append(claim.group("due")).append(");\n");
    } else {
      methods.append("try {\n").append(call).append(";\nwrong(\"").append(place)
          .append(": nothing was thrown\");\n} catch (RuntimeException thrown) {\nthrown(\"")
          .append(place).append("\", thrown, \"").append(claim.group("due")).append("\");\n}\n");
    }
  }

  String program() {
    return """
        public final class ReadmeSnippets {
          private static int wrong = 0;

          private static void wrong(String text) {
            wrong++;
            System.out.println(text);
          }

          private static void due(String place, long got, long due) {
            if (got != due) {
              wrong(place + ": the answer is " + got);
            }
          }

          private static void due(String place, boolean got, boolean due) {
            if (got != due) {
              wrong(place + ": the answer is " + got);
            }
          }

          private static void due(String place, double got, double due) {
            if (got != due) {
              wrong(place + ": the answer is " + got);
            }
          }

          private static void thrown(String place, RuntimeException thrown, String due) {
            if (!thrown.getClass().getSimpleName().equals(due)) {
              wrong(place + ": " + thrown);
            }
          }

          public static void main(String[] args) {
        """ + runs + "    System.exit(wrong == 0 ? 0 : 1);\n  }\n\n" + methods + "}\n";
  }
}
