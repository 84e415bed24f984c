import java.io.IOException;
import java.nio.file.Files;
import java.nio.file.Path;
import java.util.ArrayList;
import java.util.List;
import java.util.regex.Matcher;
import java.util.regex.Pattern;

/** The words of ../shared/DOC.md, as tests quote them, and the face that it tells. */
final class Document {
  static final int PROMISES = 38;
  private static final String PLACE = "../shared/DOC.md";

  private final String text;

  private Document(String text) {
    this.text = text;
  }

  static Document read() throws IOException {
    String whole = Files.readString(Path.of(PLACE));
    return new Document(whole.replace("```text", " ").replace("```", " "));
  }

  /** The part that "What it is", "Terms" or "Promise 2" names, its blanks made one; empty: there is none. */
  String part(String name) {
    int head = text.indexOf("\n## " + name + (name.startsWith("Promise") ? ":" : "\n"));
    if (head < 0) {
      return "";
    }
    int end = text.indexOf("\n## ", head + 1);
    String part = text.substring(head, end < 0 ? text.length() : end);
    return part.substring(part.indexOf('\n', 1)).replaceAll("\\s+", " ").trim();
  }

  /** The face, a line each: "public int guest(int wit, int size, int smell)". */
  List<String> face() {
    List<String> lines = new ArrayList<>();
    Matcher line = Pattern.compile("(?m)^ +(public .*\\));$").matcher(text);
    while (line.find()) {
      lines.add(line.group(1));
    }
    return lines;
  }

  static String partOf(String said) {
    return said.substring(0, Math.max(0, said.indexOf(": ")));
  }

  static String quoteOf(String said) {
    return said.substring(said.indexOf(": ") + 2);
  }

  boolean has(String said) {
    return part(partOf(said)).contains(quoteOf(said));
  }
}
