import java.io.IOException;
import java.lang.reflect.Method;
import java.util.ArrayList;
import java.util.BitSet;
import java.util.List;
import java.util.regex.Matcher;
import java.util.regex.Pattern;

/**
 * Every word of the Terms and of each promise is quoted by a test, so that a sentence that no test
 * holds can't stand there unseen. The calls' heads and the interface's lines are FaceTest's.
 */
public final class SentencesTest {
  private static final Class<?>[] TESTS = {
    GuestsEdgesTest.class, TextsEdgesTest.class, NightsEdgesTest.class, ThoughtEdgesTest.class,
    VoicesEdgesTest.class, SheetsEdgesTest.class, ImagesEdgesTest.class, WordsTest.class
  };

  /** The head of a promise, the interface's lines, and the numbers of the Terms' parts. */
  private static final Pattern OF_OTHERS = Pattern.compile(
      "^`[^`]*`:|Ahead of the calls [^:]* says: ---- [^.]*\\.|(?<=\\. )[1-4]\\. (?=[A-Z(])");

  private static final Pattern WORD = Pattern.compile("[A-Za-z0-9]+");

  private static int wrong = 0;

  private static List<String> quotesOf(String part) {
    List<String> quotes = new ArrayList<>();
    for (Class<?> tests : TESTS) {
      for (Method m : tests.getDeclaredMethods()) {
        Says says = m.getAnnotation(Says.class);
        for (String said : says == null ? new String[0] : says.value()) {
          if (Document.partOf(said).equals(part)) {
            quotes.add(Document.quoteOf(said));
          }
        }
      }
    }
    return quotes;
  }

  private static BitSet quoted(String text, List<String> quotes) {
    BitSet places = new BitSet();
    for (String quote : quotes) {
      for (int at = text.indexOf(quote); at >= 0; at = text.indexOf(quote, at + 1)) {
        places.set(at, at + quote.length());
      }
    }
    Matcher others = OF_OTHERS.matcher(text);
    while (others.find()) {
      places.set(others.start(), others.end());
    }
    return places;
  }

  private static void look(Document document, String part) {
    String text = document.part(part);
    List<String> quotes = quotesOf(part);
    if (text.isEmpty() || quotes.isEmpty()) {
      wrong++;
      System.out.println(part + ": no words, or no test quotes them");
    }
    BitSet places = quoted(text, quotes);
    Matcher word = WORD.matcher(text);
    while (word.find()) {
      if (places.nextClearBit(word.start()) < word.end()) {
        wrong++;
        String near = text.substring(word.start(), Math.min(text.length(), word.start() + 50));
        System.out.println(part + ": no test quotes \"" + near + "\"");
      }
    }
  }

  public static void main(String[] args) throws IOException {
    Document document = Document.read();
    look(document, "Terms");
    for (int n = 1; n <= Document.PROMISES; n++) {
      look(document, "Promise " + n);
    }
    System.out.println(wrong == 0 ? "every word is quoted" : wrong + " words are not quoted");
    if (wrong != 0) {
      System.exit(1);
    }
  }
}
