/** The edges of THE TAPE, TEXTS and what they give: promises 12 to 15 and part 2 of the Terms. */
public final class TextsEdgesTest extends Edges {
  private static final String FIFTY_NINE =
      "g+g+g+g+g+g+g+g+g+g+g+g+g+g+g+g+g+g+g+g+g+g+g+g+g+g+g+g+g+g";

  /** As full(), with so many bytes on THE TAPE. */
  private static WrongCoats taped(int bytes) {
    WrongCoats x = full();
    x.text(0);
    feed(x, "s*3" + "+g".repeat(29).substring(0, bytes - 3));
    return x;
  }

  private static void whole(int use, String... texts) {
    for (String text : texts) {
      WrongCoats x = new WrongCoats();
      due(text(x, use, text), 1);
      due(x.count(4), 0);
      due(x.untell(use), 1);
    }
  }

  private static void faulty(int use, int place, String... texts) {
    for (String text : texts) {
      WrongCoats x = new WrongCoats();
      due(text(x, use, text), -10 - place);
      due(x.count(4), 0);
      due(x.untell(use), 0);
      due(x.told(1), 0);
    }
  }

  /** What DONE gives by a TEXT. */
  private static int gives(String text, int a, int b, int c) {
    WrongCoats x = new WrongCoats();
    due(text(x, 1, text), 1);
    return x.law(1, a, b, c);
  }

  // ---- promise 12: feed

  @Says({"Promise 12: (1 .. 8)", "Promise 12: BEYOND."})
  static void promise12BeyondOfN() {
    ends(Edges::full, 1, 8, (x, n) -> x.feed(0x6767676767676767L, n));
    due(taken(Edges::full, x -> x.feed(0x67L, 1)), 6);
    due(taken(Edges::full, x -> x.feed(0x67L, 8)), 13);
  }

  @Says({"Promise 12: FULL.", "Terms: THE TAPE (bytes, at most 60)"})
  static void promise12FullAfter60Bytes() {
    due(taken(() -> taped(59), x -> x.feed(0x67L, 1)), 60);
    due(taken(() -> taped(52), x -> x.feed(0x67L, 8)), 60);
    refused(FULL, () -> taped(60), x -> x.feed(0x67L, 1));
    refused(FULL, () -> taped(60), x -> x.feed(0x67L, 8));
    refused(FULL, () -> taped(59), x -> x.feed(0x67L, 2));
    refused(FULL, () -> taped(53), x -> x.feed(0x67L, 8));
  }

  @Says("Promise 12: BEYOND. FULL.")
  static void promise12BeyondAheadOfFull() {
    refused(BEYOND, () -> taped(60), x -> x.feed(0x67L, 0));
    refused(BEYOND, () -> taped(60), x -> x.feed(0x67L, 9));
    refused(BEYOND, () -> taped(60), x -> x.feed(0x67L, MOST_INT));
  }

  @Says("Promise 12: The n lowest bytes (1 .. 8) of a word, the lowest first")
  static void promise12LowestBytesTheLowestFirst() {
    // The lowest first it is 9-2+3*56, so that each length gives something else.
    long word = 0x36352A332B322D39L;
    int[] answers = {9, -12, 7, -14, 10, -16, 22, 99};
    for (int n = 1; n <= 8; n++) {
      WrongCoats x = new WrongCoats();
      due(x.feed(word, n), n);
      int answer = x.text(0);
      due(answer == 1 ? x.law(0, 0, 0, 0) : answer, answers[n - 1]);
    }
  }

  @Says({"Promise 12: lowest bytes", "Terms: THE TAPE (bytes, at most 60)"})
  static void promise12BytesOf0To255() {
    for (int b : new int[] {0, 127, 128, 255}) {
      WrongCoats x = new WrongCoats();
      due(x.feed(0x672B67L | (long) b << 24, 4), 4);
      due(x.text(0), -13);
    }
    WrongCoats x = new WrongCoats();
    due(x.feed(0xE72B672B672B672BL, 8), 8);
    due(x.text(0), -10);
    due(x.feed(0x802B672B672B6731L, 8), 8);
    due(x.text(0), -11);
    due(x.feed(0xFF672B672B672B67L, 7), 7);
    due(x.text(0), 1);
    due(x.feed(0xFF672B672B672B67L, 8), 8);
    due(x.text(0), -17);
  }

  @Says({"Promise 12: come to THE TAPE: how many there are.", "Terms: TEXTS are read from THE TAPE"})
  static void promise12ComesBehindWhatIsThere() {
    WrongCoats x = new WrongCoats();
    due(x.feed('9', 1), 1);
    due(x.feed('-', 1), 2);
    due(x.feed('4', 1), 3);
    due(x.text(0), 1);
    due(x.law(0, 0, 0, 0), 5);
    due(x.feed('8', 1), 1);
    due(x.text(0), 1);
    due(x.law(0, 0, 0, 0), 8);
  }

  // ---- promise 13: text

  @Says("Promise 13: BEYOND (THE TAPE stays).")
  static void promise13BeyondOfUseAndTheTapeStays() {
    ends(Edges::full, 0, 1, (x, use) -> x.text(use));
    WrongCoats x = full();
    due(x.text(2), BEYOND);
    due(x.count(4), 5);
    due(x.text(-1), BEYOND);
    due(x.count(4), 5);
    due(x.text(0), 1);
    due(x.law(0, 4, 2, 1), 10);
  }

  @Says("Promise 13: THE TAPE, which is empty then, is the TEXT of a USE (0, 1), in place of one ahead: 1.")
  static void promise13TextInPlaceOfOneAhead() {
    for (int use = 0; use <= 1; use++) {
      WrongCoats x = new WrongCoats();
      due(text(x, use, "5"), 1);
      due(x.count(4), 0);
      due(x.law(use, 0, 0, 0), 5);
      due(text(x, use, "6"), 1);
      due(x.law(use, 0, 0, 0), 6);
      due(x.law(1 - use, 0, 0, 0), 0);
      due(x.untell(use), 1);
      due(x.untell(use), 0);
    }
  }

  @Says("Promise 13: -10 less the FAULT (no ERROR; the one ahead stays; THE TAPE is empty, too).")
  static void promise13FaultIsNoErrorAndTheOneAheadStays() {
    WrongCoats x = full();
    feed(x, "+");
    due(taken(() -> {
      WrongCoats y = full();
      feed(y, "+");
      return y;
    }, y -> y.text(0)), -16);
    due(x.text(0), -16);
    due(x.count(4), 0);
    due(x.law(0, 0, 0, 3), 8);
    due(text(x, 1, "g"), -10);
    due(x.law(1, 1, 2, 0), 7);
    due(counted(x), counted(full()));
  }

  @Says("Promise 13: THE TAPE is empty, too")
  static void promise13NothingOfAFaultyTextIsLeft() {
    String[] faulty = {"!(!(!", "(((((g+1", "7*8+", "g<s<", "((((((", "!!!!!!"};
    WrongCoats x = new WrongCoats();
    for (String text : faulty) {
      due(text(x, 0, text) < -10 ? 0 : 1, 0);
      due(text(x, 0, "!(!((5)))+g"), 1);
      due(x.law(0, 3, 0, 0), 4);
      due(text(x, 1, text) < -9 ? 0 : 1, 0);
      due(text(x, 1, "d+1<w+1"), 1);
      due(x.law(1, 3, 4, 0), 1);
      due(x.law(1, 4, 4, 0), 0);
    }
  }

  @Says({"Promise 13: -10 less the FAULT", "Terms: how many there are, if it ends too early"})
  static void promise13EmptyTape() {
    WrongCoats x = new WrongCoats();
    due(x.text(0), -10);
    due(x.text(1), -10);
    due(text(x, 0, "7"), 1);
    due(x.text(0), -10);
    due(x.law(0, 0, 0, 0), 7);
    due(x.told(1), 0);
  }

  @Says({
    "Promise 13: -10 less the FAULT",
    "Terms: THE TAPE (bytes, at most 60)",
    "Terms: how many there are, if it ends too early"
  })
  static void promise13TextsOf60Bytes() {
    due(FIFTY_NINE.length(), 59);
    whole(0, FIFTY_NINE, "!" + FIFTY_NINE, FIFTY_NINE.substring(0, 58) + "12");
    faulty(0, 60, FIFTY_NINE + "+", "(" + FIFTY_NINE);
    faulty(0, 59, FIFTY_NINE + ")", FIFTY_NINE + "g", FIFTY_NINE + " ");
    faulty(0, 0, "+" + FIFTY_NINE);
    WrongCoats x = new WrongCoats();
    text(x, 0, "!" + FIFTY_NINE);
    due(x.law(0, 3, 0, 0), 87);
  }

  // ---- Terms: what is a TEXT

  @Says("Terms: T: A { | A }.")
  static void termsTextOfOneOrMoreOrs() {
    whole(0, "g", "g|s", "g|s|n", "(g|s)|n");
    faulty(0, 2, "g|", "g||s", "g|&s", "g|)");
    faulty(0, 0, "|", "|g");
  }

  @Says("Terms: A: B { & B }.")
  static void termsAndsOfOneOrMore() {
    whole(0, "g&s", "g&s&n", "g&s|n&g", "g<s&n>g");
    faulty(0, 2, "g&", "g&&s", "g&|s");
    faulty(0, 0, "&", "&g");
  }

  @Says("Terms: B: S, or S < S, S = S, S > S.")
  static void termsComparesAtMostOnce() {
    whole(0, "g<s", "g=s", "g>s", "g<s&s<n", "g<s|s<n", "(g<s)<n", "g<(s<n)", "g+1<s+1");
    faulty(0, 3, "g<s<n", "g<s=n", "g<s>n", "g=s<n", "g=s=n", "g=s>n", "g>s<n", "g>s=n", "g>s>n");
    faulty(0, 5, "g<s+1<n", "g+1<s<n", "g=s*2=n");
    faulty(0, 4, "(g<s<n)");
    faulty(0, 7, "g<s&s<n<g", "g<s|s<n<g");
    faulty(0, 2, "g<", "g<<s", "g<=s", "g>=s", "g=");
    faulty(0, 0, "<", "=g", ">g");
  }

  @Says("Terms: S: P { + P, - P }.")
  static void termsSumsOfOneOrMore() {
    whole(0, "g+s", "g-s", "g+s-n+1");
    faulty(0, 2, "g+", "g-", "g+-s", "g--s", "g++s");
    faulty(0, 0, "+g", "-g", "-1");
  }

  @Says("Terms: P: Q { * Q, / Q, % Q }.")
  static void termsProductsOfOneOrMore() {
    whole(0, "g*s", "g/s", "g%s", "g*s/n%1");
    faulty(0, 2, "g*", "g/", "g%", "g**s", "g*/s", "g%%s");
    faulty(0, 0, "*g", "/g", "%g");
  }

  @Says("Terms: Q: a NUMBER of 1 to 4 digits")
  static void termsNumberOf1To4Digits() {
    whole(0, "0", "9", "10", "999", "9999", "0000", "0009", "9999+9999", "!9999", "(9999)");
    faulty(0, 4, "10000", "99999", "00000", "00001", "123456");
    faulty(0, 6, "g+12345", "9+00000");
    faulty(0, 5, "(12345)", "!12345");
    faulty(0, 0, "/", ":");
    faulty(0, 1, "1:", "9:");
    faulty(0, 1, "1g", "1(", "1!");
    due(gives("9999-9900", 0, 0, 0), 99);
    due(gives("0009", 0, 0, 0), 9);
  }

  @Says("Terms: a NAME, ! Q, ( T ).")
  static void termsPartsInFull() {
    whole(0, "!g", "!!g", "!(g)", "(!g)", "(g|s&n<1+2*3)", "((g))");
    faulty(0, 1, "!", "(", "!)", "()", "(|", "!+g", "(+g)", "gs", "g1", "g(", "g!", "g)");
    faulty(0, 2, "(g", "!g)", "!gs");
    faulty(0, 3, "(g)g", "(g))", "(g)(s)", "(g)1", "(g+");
    faulty(0, 0, ")", "");
  }

  @Says("Terms: No blanks.")
  static void termsNoBlanks() {
    faulty(0, 0, " ", " g", "\tg", "\ng");
    faulty(0, 1, "g ", "g +s", "( g)", "! g", "1 2", "g\n");
    faulty(0, 2, "g+ s", "(g )");
  }

  @Says("Terms: At most 5 of ! and ( are open at once.")
  static void termsAtMost5OpenAtOnce() {
    whole(0, "!!!!!g", "(((((g)))))", "!(!(!g))", "(!(!(g)))", "((((!g))))", "!!!!(g)");
    faulty(0, 5, "!!!!!!g", "((((((g))))))", "!(!(!(g)))", "(!(!(!g)))", "(((((!g)))))", "!!!!!(g)");
  }

  @Says("Terms: At most 5 of ! and ( are open at once.")
  static void termsClosedOnesAreOpenNoMore() {
    whole(0, "!!!!!g+!!!!!g", "(((((g)))))*(((((s)))))", "((((!g&!g&!g))))", "(!g)+((!g))+!!(!(1))");
    whole(0, "!(!g+!(!g+(g)))", "!!!!(g)*!!!!(s)");
    faulty(0, 12, "!!!!!g+!!!!!!g");
    faulty(0, 17, "(((((g)))))*(((((!g)))))");
    faulty(0, 8, "((((!g+!(g)))))");
    faulty(0, 11, "!(!g+!(!g+(!g)))");
  }

  @Says({"Terms: FAULT: the place of the first byte with which no TEXT goes on", "Promise 13: FAULT"})
  static void termsFaultIsTheFirstByteOfSeveral() {
    faulty(0, 0, "?g+?", ")))", "d+w");
    faulty(0, 1, "g?+?", "g))(");
    faulty(0, 4, "g+s*?)?");
    faulty(0, 3, "g+1s<n<g");
  }

  @Says("Terms: how many there are, if it ends too early")
  static void termsFaultOfOneThatEndsTooEarly() {
    faulty(0, 0, "");
    faulty(0, 1, "!", "(");
    faulty(0, 2, "g+", "g*", "g<", "g&", "g|", "(g", "!!", "((");
    faulty(0, 5, "!!!!!", "(((((", "(g+s+");
    faulty(0, 6, "((g+s)", "(((g))");
  }

  @Says("Terms: USES: 0 LIKE: NAMES g how it SUITS, s SMELL, n the rest of NIGHT by 7")
  static void termsNamesOfLike() {
    whole(0, "g", "s", "n");
    faulty(0, 0, "d", "w", "o", "G", "S", "N", "f", "h", "r", "t", "m");
    WrongCoats x = new WrongCoats();
    text(x, 0, "g*100+s*10+n-300");
    due(x.law(0, 3, 4, 5), 45);
  }

  @Says("Terms: 1 DONE: NAMES d what it MAKES, w WIT, o 1, if it is his own, else 0")
  static void termsNamesOfDone() {
    whole(1, "d", "w", "o");
    faulty(1, 0, "g", "s", "n", "D", "W", "O", "c", "e", "v", "x", "p");
    due(gives("d*100+w*10+o-300", 3, 4, 5), 45);
  }

  // ---- Terms: what a TEXT gives

  @Says("Terms: Ints that wrap")
  static void termsIntsThatWrap() {
    due(gives("d+1", MOST_INT, 0, 0), -99);
    due(gives("d+1", MOST_INT - 1, 0, 0), 99);
    due(gives("d-1", LEAST_INT, 0, 0), 99);
    due(gives("d-1", LEAST_INT + 1, 0, 0), -99);
    due(gives("0-d", LEAST_INT, 0, 0), -99);
    due(gives("d*w", 65536, 65536, 0), 0);
    due(gives("d*w", 65536, 32768, 0), -99);
    due(gives("d*w", 65536, 32767, 0), 99);
    due(gives("9999*9999*9999%100", 0, 0, 0), -69);
    due(gives("d+w=o", MOST_INT, MOST_INT, -2), 1);
  }

  @Says({"Terms: / cut", "Terms: Quotients are cut toward 0."})
  static void termsQuotientsAreCut() {
    due(gives("d/w", 7, 2, 0), 3);
    due(gives("d/w", -7, 2, 0), -3);
    due(gives("d/w", 7, -2, 0), -3);
    due(gives("d/w", -7, -2, 0), 3);
    due(gives("d/w", 1, 2, 0), 0);
    due(gives("d/w", -1, 2, 0), 0);
    due(gives("d/w", 8, 2, 0), 4);
    due(gives("d/w", 50, 1, 0), 50);
    due(gives("d/w", 50, -1, 0), -50);
    due(gives("d/w%50", LEAST_INT, -1, 0), -48);
  }

  @Says("Terms: % the rest that it leaves")
  static void termsRestsAreWhatTheQuotientLeaves() {
    due(gives("d%w", 7, 2, 0), 1);
    due(gives("d%w", -7, 2, 0), -1);
    due(gives("d%w", 7, -2, 0), 1);
    due(gives("d%w", -7, -2, 0), -1);
    due(gives("d%w", 8, 2, 0), 0);
    due(gives("d%w", 7, 1, 0), 0);
    due(gives("d%w", LEAST_INT, -1, 0), 0);
    due(gives("d%w", LEAST_INT, 100, 0), -48);
  }

  @Says("Terms: both by 0 are 0")
  static void termsByZeroIsZero() {
    for (int above : new int[] {0, 1, -1, 7, LEAST_INT, MOST_INT}) {
      due(gives("d/w", above, 0, 0), 0);
      due(gives("d%w", above, 0, 0), 0);
      due(gives("5+d/w", above, 0, 0), 5);
    }
    due(gives("7/0*2+1", 0, 0, 0), 1);
    due(gives("7%(d-d)", 3, 0, 0), 0);
  }

  @Says("Terms: | & < = > ! are 1 or 0")
  static void termsCompares() {
    int[][] pairs = {{1, 2}, {2, 2}, {3, 2}, {LEAST_INT, MOST_INT}, {MOST_INT, LEAST_INT}};
    int[] less = {1, 0, 0, 1, 0};
    int[] same = {0, 1, 0, 0, 0};
    int[] more = {0, 0, 1, 0, 1};
    for (int i = 0; i < pairs.length; i++) {
      due(gives("d<w", pairs[i][0], pairs[i][1], 0), less[i]);
      due(gives("d=w", pairs[i][0], pairs[i][1], 0), same[i]);
      due(gives("d>w", pairs[i][0], pairs[i][1], 0), more[i]);
    }
  }

  @Says("Terms: what is not 0 being true")
  static void termsWhatIsNot0IsTrue() {
    for (int v : new int[] {1, -1, 2, LEAST_INT, MOST_INT}) {
      due(gives("!d", v, 0, 0), 0);
      due(gives("!!d", v, 0, 0), 1);
      due(gives("d&1", v, 0, 0), 1);
      due(gives("1&d", v, 0, 0), 1);
      due(gives("d&0", v, 0, 0), 0);
      due(gives("d|0", v, 0, 0), 1);
      due(gives("0|d", v, 0, 0), 1);
      due(gives("d&d", v, 0, 0), 1);
      due(gives("d|d", v, 0, 0), 1);
    }
    due(gives("!d", 0, 0, 0), 1);
    due(gives("d|0", 0, 0, 0), 0);
    due(gives("d&1", 0, 0, 0), 0);
    due(gives("1|0&0", 0, 0, 0), 1);
    due(gives("2&1", 0, 0, 0), 1);
    due(gives("2&4", 0, 0, 0), 1);
    due(gives("d", 7, 0, 0), 7);
  }

  @Says("Terms: all is worked out")
  static void termsAllIsWorkedOut() {
    due(gives("0&7/0", 0, 0, 0), 0);
    due(gives("1|7/0", 0, 0, 0), 1);
    due(gives("7/0|1", 0, 0, 0), 1);
    due(gives("(1|d)*5+(0&d)", 9, 0, 0), 5);
  }

  @Says({"Terms: T: A { | A }. A: B { & B }.", "Terms: S: P { + P, - P }. P: Q { * Q, / Q, % Q }."})
  static void termsWhatBindsCloser() {
    due(gives("1|0&0", 0, 0, 0), 1);
    due(gives("(1|0)&0", 0, 0, 0), 0);
    due(gives("1&2=2", 0, 0, 0), 1);
    due(gives("(1&2)=2", 0, 0, 0), 0);
    due(gives("1+1<1+2", 0, 0, 0), 1);
    due(gives("2+3*4", 0, 0, 0), 14);
    due(gives("(2+3)*4", 0, 0, 0), 20);
    due(gives("20-5-3", 0, 0, 0), 12);
    due(gives("40/4*2", 0, 0, 0), 20);
    due(gives("40%7*2", 0, 0, 0), 10);
    due(gives("!0*5", 0, 0, 0), 5);
    due(gives("!0+5", 0, 0, 0), 6);
    due(gives("!(0+5)", 0, 0, 0), 0);
    due(gives("!5=0", 0, 0, 0), 1);
    due(gives("!(5=0)*3", 0, 0, 0), 3);
  }

  @Says("Terms: held within 0 .. 99; without a TEXT g (held likewise)")
  static void termsLikeIsHeldWithin0And99() {
    WrongCoats x = house(1, 1);
    due(text(x, 0, "g+s"), 1);
    int[] given = {0, -1, 99, 100, 50, LEAST_INT, MOST_INT};
    int[] held = {0, 0, 99, 99, 50, 0, 99};
    for (int i = 0; i < given.length; i++) {
      due(x.law(0, given[i], 0, 0), held[i]);
      due(new WrongCoats().law(0, given[i], 7, 7), held[i]);
    }
    String[] texts = {"0", "0-1", "99", "100", "9999"};
    int[] likes = {0, 0, 99, 99, 99};
    for (int i = 0; i < texts.length; i++) {
      due(text(x, 0, texts[i]), 1);
      due(x.like(0, 0), likes[i]);
    }
  }

  @Says("Terms: held within -99 .. 99; without a TEXT d (held likewise)")
  static void termsDoneIsHeldWithinMinus99And99() {
    WrongCoats x = house(1, 1);
    due(text(x, 1, "d+w"), 1);
    int[] given = {-99, -100, 99, 100, 0, LEAST_INT, MOST_INT};
    int[] held = {-99, -99, 99, 99, 0, -99, 99};
    for (int i = 0; i < given.length; i++) {
      due(x.law(1, given[i], 0, 0), held[i]);
      due(new WrongCoats().law(1, given[i], 7, 7), held[i]);
    }
    String[] texts = {"0-99", "0-100", "99", "100", "0-9999"};
    int[] dones = {-99, -99, 99, 99, -99};
    for (int i = 0; i < texts.length; i++) {
      due(text(x, 1, texts[i]), 1);
      due(x.done(0, 0), dones[i]);
    }
  }

  @Says("Terms: held within")
  static void termsOnlyWhatIsGivenIsHeld() {
    due(gives("d-w", 1000, 950, 0), 50);
    due(gives("(100+100)/4", 0, 0, 0), 50);
    due(gives("(0-500)+450", 0, 0, 0), -50);
    WrongCoats x = new WrongCoats();
    text(x, 0, "(0-50)+g");
    due(x.law(0, 60, 0, 0), 10);
  }

  // ---- promise 14: untell

  @Says("Promise 14: BEYOND.")
  static void promise14BeyondOfUse() {
    ends(Edges::full, 0, 1, (x, use) -> x.untell(use));
    ends(WrongCoats::new, 0, 1, (x, use) -> x.untell(use));
  }

  @Says("Promise 14: 1 if there was, else 0.")
  static void promise14OneIfThereWasElse0() {
    WrongCoats x = full();
    due(x.untell(0), 1);
    due(x.untell(0), 0);
    due(x.law(0, 41, 3, 3), 41);
    due(x.law(1, 1, 2, 0), 7);
    due(x.untell(1), 1);
    due(x.untell(1), 0);
    due(x.law(1, -41, 3, 3), -41);
    due(x.count(4), 5);
    due(x.text(1), -10);
    due(x.untell(1), 0);
  }

  // ---- promise 15: law

  @Says("Promise 15: BEYOND.")
  static void promise15BeyondOfUse() {
    ends(Edges::full, 0, 1, (x, use) -> x.law(use, 5, 1, 1));
    ends(WrongCoats::new, 0, 1, (x, use) -> x.law(use, 5, 1, 1));
  }

  @Says("Promise 15: What a USE gives with its NAMES in order as a, b, c (any number).")
  static void promise15AnyNumbersInOrder() {
    WrongCoats x = new WrongCoats();
    text(x, 0, "g/s-n");
    due(x.law(0, MOST_INT, MOST_INT, LEAST_INT), 0);
    due(x.law(0, 84, 4, -3), 24);
    text(x, 1, "d/w-o");
    due(x.law(1, LEAST_INT, MOST_INT, 0), -1);
    due(x.law(1, 84, -4, 3), -24);
    due(x.law(1, LOW - 1, 1, 0), -99);
    due(x.told(1), 0);
  }

  public static void main(String[] args) throws Exception {
    run(TextsEdgesTest.class);
  }
}
