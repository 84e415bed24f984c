import java.io.IOException;
import java.lang.reflect.Method;
import java.util.ArrayList;
import java.util.BitSet;
import java.util.List;
import java.util.regex.Matcher;
import java.util.regex.Pattern;

/** Every ERROR and every bound that the document names is quoted by a test of edges. */
public final class SentencesTest {
  private static final Class<?>[] TESTS = {
    GuestsEdgesTest.class, TextsEdgesTest.class, NightsEdgesTest.class, ThoughtEdgesTest.class,
    VoicesEdgesTest.class, SheetsEdgesTest.class, ImagesEdgesTest.class
  };

  /** An ERROR that begins a sentence; ranges and limits; what is empty, missing, cut or wraps. */
  private static final Pattern BOUND = Pattern.compile(
      "(?<=[.;:] )(BEYOND|NONE|STATE|FULL|KIND|PARTED)\\b"
          + "|-?\\d+ \\.\\. -?\\d+|at most \\d+|the first \\d+|\\d+ to \\d+ digits|\\d+ wait"
          + "|by 0|wrap|\\bcut\\b|at first|-1: no|the least|held|missing|too early|below|above \\d"
          + "|there is nobody|if none|there is none|\\(0, 1\\)|by 1\\)|else 0|no COAT two|any number",
      Pattern.CASE_INSENSITIVE);

  private static int wrong = 0;

  private static List<String> quotesOf(String part) {
    List<String> quotes = new ArrayList<>();
    for (Class<?> tests : TESTS) {
      for (Method m : tests.getDeclaredMethods()) {
        Says says = m.getAnnotation(Says.class);
        for (String said : says == null ? new String[0] : says.value()) {
          if (Document.partOf(said).equals(part)) {
            quotes.add(Document.quoteOf(said));
          }
        }
      }
    }
    return quotes;
  }

  private static BitSet quoted(String text, List<String> quotes) {
    BitSet places = new BitSet();
    for (String quote : quotes) {
      for (int at = text.indexOf(quote); at >= 0; at = text.indexOf(quote, at + 1)) {
        places.set(at, at + quote.length());
      }
    }
    return places;
  }

  private static void look(Document document, String part) {
    String text = document.part(part);
    List<String> quotes = quotesOf(part);
    if (text.isEmpty() || quotes.isEmpty()) {
      wrong++;
      System.out.println(part + ": no words, or no test quotes them");
    }
    BitSet places = quoted(text, quotes);
    Matcher bound = BOUND.matcher(text);
    while (bound.find()) {
      if (places.nextClearBit(bound.start()) < bound.end()) {
        wrong++;
        String near = text.substring(bound.start(), Math.min(text.length(), bound.start() + 50));
        System.out.println(part + ": no test quotes \"" + near + "\"");
      }
    }
  }

  public static void main(String[] args) throws IOException {
    Document document = Document.read();
    look(document, "Terms");
    for (int n = 1; n <= Document.PROMISES; n++) {
      look(document, "Promise " + n);
    }
    System.out.println(wrong == 0 ? "every bound is quoted" : wrong + " bounds are not quoted");
    if (wrong != 0) {
      System.exit(1);
    }
  }
}
