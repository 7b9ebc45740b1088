import java.io.IOException;
import java.nio.file.Files;
import java.nio.file.Path;
import java.util.ArrayList;
import java.util.LinkedHashMap;
import java.util.List;
import java.util.Map;
import java.util.regex.Matcher;
import java.util.regex.Pattern;

/** What stands in the document: the sentences of its parts, and what each promise tells. */
final class Document {
  private static final Path FILE = Path.of("../shared/DOC.md");

  // A sentence ends ahead of a great letter, a bracket, or what a letter of a program is told by.
  private static final String BETWEEN =
      "(?:(?<=\\.)|(?<=\\.\\))) (?=[A-Z(]|\\S(?: [a-z])+: |\\+ v a b|: and)";

  /** A promise: the name of its call, the lines of its arguments, what it throws, in order. */
  record Promise(int number, String name, List<String> arguments, List<String> thrown) {
  }

  final Map<String, Promise> promises = new LinkedHashMap<>();

  /** Where the sentences stand that tell what all of it is. */
  static final int WHAT_IT_IS = -1;

  /** The sentences of the parts are those of 0, the others those of promises. */
  final Map<Integer, List<String>> sentences = new LinkedHashMap<>();

  /** What the interface says ahead of which calls. */
  final Map<String, List<String>> calls = new LinkedHashMap<>();

  private Document() throws IOException {
    String text = Files.readString(FILE);
    String first = text.substring(text.indexOf("## What it is") + 13);
    sentences.put(WHAT_IT_IS, split(first.substring(0, first.indexOf("## "))));
    String parts = text.substring(text.indexOf("Part 1, "), text.indexOf("Ahead of the calls"));
    sentences.put(0, split(parts));
    Matcher ahead = Pattern.compile("Ahead of the calls (.*) the interface says: (.*)\\.\n")
        .matcher(text);
    while (ahead.find()) {
      calls.put(ahead.group(2), List.of(ahead.group(1).replace("`", "").split(", ")));
    }
    Matcher promise = Pattern.compile("## Promise (\\d+): [^\n]*\n(.*?)(?=\n## )", Pattern.DOTALL)
        .matcher(text);
    while (promise.find()) {
      readPromise(Integer.parseInt(promise.group(1)), promise.group(2));
    }
  }

  static Document read() {
    try {
      return new Document();
    } catch (IOException e) {
      throw new IllegalStateException(e);
    }
  }

  private void readPromise(int number, String text) {
    Matcher head = Pattern.compile("`(?:[a-z]+ )?(\\w+)\\([^`]*`: ([^\n]*)").matcher(text);
    if (!head.find()) {
      throw new IllegalStateException("promise " + number + " has no head");
    }
    List<String> told = new ArrayList<>(split(head.group(2)));
    List<String> arguments = new ArrayList<>();
    List<String> thrown = new ArrayList<>();
    for (String line : text.split("\n")) {
      if (line.startsWith("- `")) {
        arguments.add(line.substring(2).replace("`", ""));
      } else if (line.startsWith("Throws `")) {
        thrown.add(line.substring(8, line.indexOf('`', 8)));
      } else if (line.startsWith("Returns ")) {
        told.addAll(split(line));
      }
    }
    sentences.put(number, told);
    promises.put(head.group(1), new Promise(number, head.group(1), arguments, thrown));
  }

  private static List<String> split(String text) {
    return List.of(text.trim().replaceAll("\\s+", " ").split(BETWEEN));
  }
}
