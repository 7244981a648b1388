import java.io.IOException;
import java.nio.file.Files;
import java.nio.file.Path;
import java.util.Map;
import java.util.TreeMap;

/**
 * Whether the edge tests are those of the document: each sentence that they hold stands there, and
 * each line there that tells an argument's range or an exception is held. Run from the project's
 * folder; without the document beside it there is nothing to look at.
 */
final class SentenceTests {
  private static final Path DOCUMENT = Path.of("..", "shared", "DOC.md");

  private SentenceTests() {}

  static void run() {
    if (!Files.isReadable(DOCUMENT)) {
      System.out.println("no " + DOCUMENT + ": sentences are not compared");
      return;
    }
    Map<String, String> sections = sections();
    for (String held : Edges.held()) {
      int end = held.indexOf(": ", held.startsWith("Promise") ? held.indexOf(':') + 1 : 0);
      String text = sections.getOrDefault(held.substring(0, end), "");
      Check.same("it stands in the document: " + held,
          text.contains(held.substring(end + 2)), true);
    }
    for (Map.Entry<String, String> section : sections.entrySet()) {
      if (section.getKey().startsWith("Promise")) {
        rangesAreHeld(section.getKey(), section.getValue());
      }
    }
  }

  private static void rangesAreHeld(String heading, String text) {
    for (String line : text.split("\n")) {
      if (line.startsWith("- `") || line.startsWith("Throws ")) {
        String sentence = Edges.key(heading, line);
        Check.same("it has a test: " + sentence, Edges.held().contains(sentence), true);
      }
    }
  }

  /** What stands behind each heading, up to the next one. */
  private static Map<String, String> sections() {
    Map<String, String> sections = new TreeMap<>();
    String heading = "";
    for (String line : text().split("\n")) {
      if (line.startsWith("#")) {
        heading = line.replaceFirst("^#+ ", "");
      } else {
        sections.merge(heading, line + "\n", String::concat);
      }
    }
    return sections;
  }

  private static String text() {
    try {
      return Files.readString(DOCUMENT);
    } catch (IOException e) {
      return "";
    }
  }
}
