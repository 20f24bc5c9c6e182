import java.io.IOException;
import java.io.UncheckedIOException;
import java.nio.file.Files;
import java.nio.file.Path;
import java.util.ArrayList;
import java.util.List;
import java.util.regex.Pattern;

/** The sentences of ../shared/DOC.md that tests are about: what a test names must stand there, word for word. */
final class Sentence {
  static final int DESCRIPTION = 0;

  private static final Path DOCUMENT = Path.of("../shared/DOC.md");
  private static final Pattern PROMISE = Pattern.compile("## Promise \\d+: .*");
  private static final Pattern EDGE = Pattern.compile("-8|-7|NONE|\\bif\\b|without|empty|above");

  private static final List<List<String>> parts = read();
  private static final List<List<String>> named = new ArrayList<>();
  private static int askedBefore = 0;

  private Sentence() {
  }

  /** What is asked from here on is about these words of a promise. */
  static void of(int promise, String words) {
    close();
    Due.about("promise " + promise + ", \"" + words + "\"");
    if (named.isEmpty()) {
      parts.forEach(each -> named.add(new ArrayList<>()));
    }
    boolean isThere = parts.get(promise).stream().anyMatch(line -> line.contains(words));
    Due.is("the document says so", isThere, true);
    named.get(promise).add(words);
    askedBefore = Due.asked();
  }

  private static void close() {
    if (!named.isEmpty()) {
      Due.is("something is asked about it", Due.asked() > askedBefore, true);
    }
  }

  /** Each line that tells what is thrown, or what is returned at an edge, must have been named. */
  static void end() {
    close();
    Due.about("");
    for (int promise = 1; promise < parts.size(); promise++) {
      for (String line : parts.get(promise)) {
        boolean isEdge = line.startsWith("Throws ") || line.startsWith("Returns ") && EDGE.matcher(line).find();
        if (isEdge) {
          Due.is("promise " + promise + " has a test for: " + line, isNamed(promise, line), true);
        }
      }
    }
    Due.is("promises", parts.size() - 1, 50);
  }

  private static boolean isNamed(int promise, String line) {
    // What is thrown is named whole: half of its conditions would not do.
    return named.get(promise).stream().anyMatch(words -> line.startsWith("Throws ") ? line.equals(words)
        : line.contains(words));
  }

  /** The lines of each promise, and ahead of them those of the description. */
  private static List<List<String>> read() {
    List<List<String>> read = new ArrayList<>();
    read.add(new ArrayList<>());
    try {
      for (String line : Files.readAllLines(DOCUMENT)) {
        if (PROMISE.matcher(line).matches()) {
          read.add(new ArrayList<>());
        }
        read.get(read.size() - 1).add(line);
      }
    } catch (IOException e) {
      throw new UncheckedIOException(e);
    }
    return read;
  }
}
