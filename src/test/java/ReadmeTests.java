import java.io.ByteArrayOutputStream;
import java.io.IOException;
import java.io.PrintStream;
import java.nio.file.Files;
import java.nio.file.Path;
import java.util.ArrayList;
import java.util.List;

/**
 * Whether the example of README.md is that of Example, and prints what is told behind its lines.
 * Run from the project's folder.
 */
final class ReadmeTests {
  private static final Path README = Path.of("README.md");
  private static final Path EXAMPLE = Path.of("src", "test", "java", "Example.java");
  private static final String PRINTS = "System.out.println(";

  private ReadmeTests() {}

  static void run() {
    List<String> shown = between(linesOf(README), "```java", "```");
    List<String> run = between(linesOf(EXAMPLE), "public static void main(String[] args) {", "}");
    Check.same("README.md has an example", shown.isEmpty(), false);
    Check.same("the example of README.md", shown, run);
    Check.same("what it prints", printed(), told(shown));
  }

  private static List<String> linesOf(Path file) {
    try {
      return Files.readAllLines(file);
    } catch (IOException e) {
      return List.of();
    }
  }

  /** The lines behind a first one and before a last one, without what they are indented by. */
  private static List<String> between(List<String> lines, String first, String last) {
    List<String> found = new ArrayList<>();
    boolean inside = false;
    for (String line : lines) {
      String text = line.strip();
      if (inside && text.equals(last)) {
        return found;
      }
      if (inside) {
        found.add(text);
      }
      inside = inside || text.equals(first);
    }
    return found;
  }

  /** What stands behind the lines that print, up to a comma. */
  private static List<String> told(List<String> lines) {
    List<String> told = new ArrayList<>();
    for (String line : lines) {
      if (line.startsWith(PRINTS)) {
        told.add(line.replaceFirst(".*; // ", "").replaceFirst(",.*", ""));
      }
    }
    return told;
  }

  private static List<String> printed() {
    PrintStream before = System.out;
    ByteArrayOutputStream bytes = new ByteArrayOutputStream();
    System.setOut(new PrintStream(bytes, true));
    try {
      Example.main(new String[0]);
    } finally {
      System.setOut(before);
    }
    return bytes.toString().lines().toList();
  }
}
