/** The edges of sheets and what is told by them: promises 28 to 32. */
public final class SheetsEdgesTest extends Edges {
  private static final int NO_COAT = 99;

  /** As full(), and SHEET 3 has 4 numbers of 8 bits, as SHEET 0 has 3. */
  private static WrongCoats pair() {
    WrongCoats x = full();
    sheet(x, 3, 8, 0, 2, 4, 1);
    return x;
  }

  /** Two SHEETS of 24 numbers: 0 has 1 at its start and 2 at its end, 1 is all 0. */
  private static WrongCoats longest() {
    WrongCoats x = house(7, 7);
    x.sheet(0, 16, 24);
    x.put(0, 0, 1);
    x.put(0, 23, 2);
    x.sheet(1, 16, 24);
    return x;
  }

  /** A number of a SHEET of so many bits, if it is a COAT or -1, by SHEET 3. */
  private static int number(WrongCoats x, int sheet, int bits, int i) {
    x.sheet(3, bits, 1);
    due(x.move(sheet, i, 3, 0, 1), 1);
    return x.wearsAll(3) == 0 ? NO_COAT : x.guestIs(0, 3);
  }

  private static void numbers(WrongCoats x, int sheet, int bits, int... want) {
    for (int i = 0; i < want.length; i++) {
      due(number(x, sheet, bits, i), want[i]);
    }
  }

  /** Who wears what after wearsAll() by numbers of 32 bits, when guest g wore COAT g ahead. */
  private static void wearsAll(int want, int[] wear, int... by) {
    Made made = () -> {
      WrongCoats x = house(4, 5);
      for (int g = 0; g < 4; g++) {
        x.wears(g, g);
      }
      sheet(x, 1, 32, by);
      return x;
    };
    due(taken(made, x -> x.wearsAll(1)), want);
    WrongCoats x = made.one();
    x.wearsAll(1);
    for (int g = 0; g < 4; g++) {
      due(x.guestIs(g, 3), g < wear.length ? wear[g] : -1);
    }
  }

  private static int[] row(int... numbers) {
    return numbers;
  }

  // ---- promise 28: sheet

  @Says({"Promise 28: BEYOND.", "Terms: SHEETS 0 .. 3 are rows"})
  static void promise28BeyondOfSheet() {
    ends(Edges::full, 0, 3, (x, sheet) -> x.sheet(sheet, 16, 5));
    ends(Edges::full, 0, 3, (x, sheet) -> x.sheet(sheet, 0, 5));
  }

  @Says({"Promise 28: of so many bits (8, 16, 32; 0: it is missing", "Promise 28: BEYOND."})
  static void promise28BeyondOfBits() {
    for (int bits : new int[] {0, 8, 16, 32}) {
      due(taken(Edges::full, x -> x.sheet(0, bits, 5)), 1);
      due(taken(Edges::full, x -> x.sheet(3, bits, 5)), 1);
    }
    int[] beyond = {-1, 1, 7, 9, 15, 17, 24, 31, 33, 64, -8, LEAST_INT, MOST_INT};
    for (int bits : beyond) {
      refused(BEYOND, Edges::full, x -> x.sheet(0, bits, 5));
    }
  }

  @Says({
    "Promise 28: STATE: n is below 0 (ahead of BEYOND of n).",
    "Terms: rows of 8, 16, 32 bits, at most 24 numbers"
  })
  static void promise28StateBelow0AndBeyondAbove24() {
    for (int bits : new int[] {8, 16, 32}) {
      due(taken(Edges::full, x -> x.sheet(0, bits, 0)), 1);
      due(taken(Edges::full, x -> x.sheet(0, bits, 24)), 1);
      refused(STATE, Edges::full, x -> x.sheet(0, bits, -1));
      refused(STATE, Edges::full, x -> x.sheet(3, bits, LEAST_INT));
      refused(BEYOND, Edges::full, x -> x.sheet(0, bits, 25));
      refused(BEYOND, Edges::full, x -> x.sheet(3, bits, MOST_INT));
    }
  }

  @Says("Promise 28: BEYOND. STATE")
  static void promise28BeyondOfSheetAndBitsAheadOfState() {
    refused(BEYOND, Edges::full, x -> x.sheet(4, 8, -1));
    refused(BEYOND, Edges::full, x -> x.sheet(-1, 32, -1));
    refused(BEYOND, Edges::full, x -> x.sheet(0, 9, -1));
    refused(BEYOND, Edges::full, x -> x.sheet(4, 0, -1));
  }

  @Says("Promise 28: 0: it is missing, n doesn't matter")
  static void promise28MissingByAnyN() {
    for (int n : new int[] {0, 1, 24, 25, -1, LEAST_INT, MOST_INT}) {
      WrongCoats x = full();
      due(x.sheet(0, 0, n), 1);
      due(x.judge(0), NONE);
      due(x.sheet(0, 0, n), 1);
      due(x.sheet(3, 0, n), 1);
      due(x.judge(3), NONE);
      due(x.told(3), full().told(3));
    }
  }

  @Says("Promise 28: A SHEET has n numbers, all 0")
  static void promise28All0AlsoWhenLaidAgain() {
    for (int bits : new int[] {8, 16, 32}) {
      WrongCoats x = house(7, 7);
      x.sheet(0, bits, 24);
      for (int i = 0; i < 24; i++) {
        due(x.put(0, i, 5), 1);
      }
      due(x.put(0, 24, 5), BEYOND);
      due(x.sheet(0, bits, 24), 1);
      for (int i = 0; i < 24; i++) {
        due(number(x, 0, bits, i), 0);
      }
      due(x.put(0, 24, 5), BEYOND);
    }
  }

  @Says("Promise 28: A SHEET has n numbers, all 0")
  static void promise28All0WhenItWasLessLongOrMissing() {
    WrongCoats x = house(7, 7);
    sheet(x, 0, 8, 5, 6);
    x.sheet(0, 8, 1);
    due(x.put(0, 1, 3), BEYOND);
    x.sheet(0, 8, 2);
    numbers(x, 0, 8, 0, 0);
    sheet(x, 0, 8, 5, 6);
    x.sheet(0, 0, 0);
    x.sheet(0, 16, 2);
    numbers(x, 0, 16, 0, 0);
  }

  @Says("Promise 28: A SHEET has n numbers")
  static void promise28OfNoNumbersIsNotMissing() {
    WrongCoats x = full();
    due(x.sheet(3, 8, 0), 1);
    due(x.judge(3), 0);
    due(x.put(3, 0, 0), BEYOND);
    due(x.move(3, 0, 3, 0, 0), 0);
    due(x.fits(3, 0), 15);
  }

  // ---- promise 29: put

  @Says("Promise 29: BEYOND: no such SHEET.")
  static void promise29BeyondOfSheet() {
    ends(SheetsEdgesTest::pair, 0, 3, (x, sheet) -> x.put(sheet, 0, 6));
  }

  @Says("Promise 29: NONE: it is missing.")
  static void promise29NoneOfAMissingSheet() {
    refused(NONE, Edges::full, x -> x.put(3, 0, 0));
    refused(NONE, WrongCoats::new, x -> x.put(0, 0, 0));
    due(taken(Edges::full, x -> x.put(2, 0, 0)), 1);
  }

  @Says("Promise 29: BEYOND: no such number.")
  static void promise29BeyondOfNumber() {
    ends(Edges::full, 0, 2, (x, i) -> x.put(0, i, 6));
    ends(Edges::full, 0, 1, (x, i) -> x.put(1, i, 6));
    ends(Edges::full, 0, 3, (x, i) -> x.put(2, i, 6));
    ends(SheetsEdgesTest::longest, 0, 23, (x, i) -> x.put(1, i, 6));
    Made empty = () -> {
      WrongCoats x = full();
      x.sheet(3, 8, 0);
      return x;
    };
    refused(BEYOND, empty, x -> x.put(3, 0, 6));
  }

  @Says("Promise 29: BEYOND: no such SHEET. NONE: it is missing. BEYOND: no such number.")
  static void promise29ErrorsInOrder() {
    refused(BEYOND, Edges::full, x -> x.put(4, -1, 0));
    refused(NONE, Edges::full, x -> x.put(3, -1, 0));
    refused(NONE, Edges::full, x -> x.put(3, 24, 0));
  }

  @Says("Promise 29: Number i of a SHEET becomes v (its lowest bits): 1.")
  static void promise29LowestBits() {
    int[] put = {
      0, 6, -1, 127, 128, 255, 256, 262, -250, 32767, 32768, 65535, 65536, 65542, -65530, LEAST_INT,
      MOST_INT
    };
    int[] of8 = {
      0, 6, -1, NO_COAT, NO_COAT, -1, 0, 6, 6, -1, 0, -1, 0, 6, 6, 0, -1
    };
    int[] of16 = {
      0, 6, -1, NO_COAT, NO_COAT, NO_COAT, NO_COAT, NO_COAT, NO_COAT, NO_COAT, NO_COAT, -1, 0, 6, 6,
      0, -1
    };
    for (int i = 0; i < put.length; i++) {
      WrongCoats x = house(7, 7);
      x.sheet(0, 8, 24);
      x.sheet(1, 16, 24);
      x.sheet(2, 32, 24);
      for (int s = 0; s <= 2; s++) {
        due(x.put(s, 23, put[i]), 1);
      }
      due(number(x, 0, 8, 23), of8[i]);
      due(number(x, 1, 16, 23), of16[i]);
      due(number(x, 2, 32, 23), put[i] >= -1 && put[i] <= 6 ? put[i] : NO_COAT);
      due(number(x, 0, 8, 22), 0);
    }
  }

  // ---- promise 30: move

  @Says("Promise 30: BEYOND: no such SHEET.")
  static void promise30BeyondOfSheet() {
    ends(SheetsEdgesTest::pair, 0, 3, (x, sheet) -> x.move(sheet, 1, sheet, 0, 1));
    for (int sheet : new int[] {-1, 4, LEAST_INT, MOST_INT}) {
      refused(BEYOND, SheetsEdgesTest::pair, x -> x.move(sheet, 0, 3, 0, 1));
      refused(BEYOND, SheetsEdgesTest::pair, x -> x.move(0, 0, sheet, 0, 1));
    }
    due(taken(SheetsEdgesTest::pair, x -> x.move(0, 0, 3, 0, 1)), 1);
    due(taken(SheetsEdgesTest::pair, x -> x.move(3, 0, 0, 0, 1)), 1);
  }

  @Says("Promise 30: NONE: one is missing.")
  static void promise30NoneOfAMissingSheet() {
    refused(NONE, Edges::full, x -> x.move(3, 0, 0, 0, 1));
    refused(NONE, Edges::full, x -> x.move(0, 0, 3, 0, 1));
    refused(NONE, Edges::full, x -> x.move(3, 0, 3, 0, 0));
    refused(NONE, WrongCoats::new, x -> x.move(0, 0, 1, 0, 0));
  }

  @Says("Promise 30: KIND: they are of unlike bits.")
  static void promise30KindOfUnlikeBits() {
    int[][] unlike = {{0, 1}, {1, 0}, {0, 2}, {2, 0}, {1, 2}, {2, 1}, {1, 3}, {3, 2}};
    for (int[] two : unlike) {
      refused(KIND, SheetsEdgesTest::pair, x -> x.move(two[0], 0, two[1], 0, 1));
      refused(KIND, SheetsEdgesTest::pair, x -> x.move(two[0], 0, two[1], 0, 0));
    }
    for (int s = 0; s <= 3; s++) {
      int same = s;
      due(taken(SheetsEdgesTest::pair, x -> x.move(same, 0, same, 1, 1)), 1);
    }
  }

  @Says("Promise 30: BEYOND: n, i, or j is below 0")
  static void promise30BeyondBelow0() {
    for (int below : new int[] {-1, LEAST_INT}) {
      refused(BEYOND, SheetsEdgesTest::pair, x -> x.move(0, below, 3, 0, 1));
      refused(BEYOND, SheetsEdgesTest::pair, x -> x.move(0, 0, 3, below, 1));
      refused(BEYOND, SheetsEdgesTest::pair, x -> x.move(0, 0, 3, 0, below));
      refused(BEYOND, SheetsEdgesTest::pair, x -> x.move(0, below, 3, 0, 0));
      refused(BEYOND, SheetsEdgesTest::pair, x -> x.move(0, 0, 3, below, 0));
      refused(BEYOND, SheetsEdgesTest::pair, x -> x.move(0, 2, 3, 2, below));
    }
    due(taken(SheetsEdgesTest::pair, x -> x.move(0, 0, 3, 0, 0)), 0);
  }

  @Says("Promise 30: or they don't stand there.")
  static void promise30BeyondWhereTheyDontStand() {
    int[][] stand = {{0, 0, 3, 0, 3}, {0, 0, 3, 1, 3}, {0, 2, 3, 3, 1}, {3, 0, 0, 0, 3}, {3, 1, 0, 0, 3}};
    for (int[] m : stand) {
      due(taken(SheetsEdgesTest::pair, x -> x.move(m[0], m[1], m[2], m[3], m[4])), m[4]);
    }
    int[][] dont = {
      {0, 0, 3, 0, 4}, {0, 1, 3, 0, 3}, {0, 3, 3, 0, 1}, {0, 0, 3, 2, 3}, {0, 2, 3, 4, 1},
      {3, 0, 0, 0, 4}, {3, 2, 0, 0, 3}, {3, 0, 0, 1, 3}, {3, 0, 3, 1, 4}, {3, 1, 3, 0, 4}
    };
    for (int[] m : dont) {
      refused(BEYOND, SheetsEdgesTest::pair, x -> x.move(m[0], m[1], m[2], m[3], m[4]));
    }
  }

  @Says("Promise 30: or they don't stand there.")
  static void promise30SumsThatWouldWrap() {
    int[][] far = {
      {0, MOST_INT, 3, 0, 1}, {0, 0, 3, MOST_INT, 1}, {0, 0, 3, 0, MOST_INT},
      {0, 1, 3, 1, MOST_INT}, {0, MOST_INT, 3, MOST_INT, MOST_INT}, {0, MOST_INT, 3, 0, 0},
      {0, 0, 3, MOST_INT, 0}
    };
    for (int[] m : far) {
      refused(BEYOND, SheetsEdgesTest::pair, x -> x.move(m[0], m[1], m[2], m[3], m[4]));
    }
  }

  @Says("Promise 30: n numbers of a SHEET, from number i on, come to another one")
  static void promise30NoNumbersAtTheVeryEnd() {
    due(taken(SheetsEdgesTest::pair, x -> x.move(0, 3, 3, 4, 0)), 0);
    due(taken(SheetsEdgesTest::pair, x -> x.move(3, 4, 0, 3, 0)), 0);
    refused(BEYOND, SheetsEdgesTest::pair, x -> x.move(0, 4, 3, 0, 0));
    refused(BEYOND, SheetsEdgesTest::pair, x -> x.move(0, 0, 3, 5, 0));
    WrongCoats x = full();
    x.sheet(3, 8, 0);
    due(x.move(3, 0, 3, 0, 0), 0);
    due(x.move(3, 0, 0, 3, 0), 0);
    due(x.move(3, 0, 0, 4, 0), BEYOND);
    due(x.move(3, 0, 0, 0, 1), BEYOND);
    due(x.move(0, 0, 3, 0, 1), BEYOND);
  }

  @Says({"Promise 30: n numbers of a SHEET, from number i on", "Terms: at most 24 numbers"})
  static void promise30All24Numbers() {
    due(taken(SheetsEdgesTest::longest, x -> x.move(0, 0, 1, 0, 24)), 24);
    refused(BEYOND, SheetsEdgesTest::longest, x -> x.move(0, 0, 1, 0, 25));
    refused(BEYOND, SheetsEdgesTest::longest, x -> x.move(0, 1, 1, 0, 24));
    refused(BEYOND, SheetsEdgesTest::longest, x -> x.move(0, 24, 1, 0, 1));
    refused(BEYOND, SheetsEdgesTest::longest, x -> x.move(0, 0, 1, 24, 1));
    WrongCoats x = longest();
    x.move(0, 0, 1, 0, 24);
    due(number(x, 1, 16, 0), 1);
    due(number(x, 1, 16, 22), 0);
    due(number(x, 1, 16, 23), 2);
    x = longest();
    due(x.move(0, 23, 1, 0, 1), 1);
    due(number(x, 1, 16, 0), 2);
    due(x.move(0, 0, 1, 23, 1), 1);
    due(number(x, 1, 16, 23), 1);
    due(x.move(0, 24, 1, 24, 0), 0);
  }

  @Says(
      "Promise 30: BEYOND: no such SHEET. NONE: one is missing. KIND: they are of unlike bits."
          + " BEYOND: n, i, or j is below 0")
  static void promise30ErrorsInOrder() {
    refused(BEYOND, Edges::full, x -> x.move(3, 0, 4, 0, 1));
    refused(BEYOND, Edges::full, x -> x.move(4, 0, 3, 0, 1));
    refused(NONE, Edges::full, x -> x.move(3, -1, 0, 0, 1));
    refused(NONE, Edges::full, x -> x.move(0, 0, 3, -1, -1));
    refused(NONE, Edges::full, x -> x.move(2, 9, 3, 0, 1));
    refused(KIND, Edges::full, x -> x.move(0, -1, 1, 0, 1));
    refused(KIND, Edges::full, x -> x.move(0, 0, 1, -1, -1));
    refused(KIND, Edges::full, x -> x.move(0, 0, 1, 0, 24));
  }

  @Says("Promise 30: (or the same), from its number j on, as they all were: n.")
  static void promise30WithinTheSameAsTheyAllWere() {
    for (int bits : new int[] {8, 16, 32}) {
      WrongCoats x = house(7, 7);
      sheet(x, 0, bits, 0, 1, 2, 3, 4);
      due(x.move(0, 0, 0, 1, 4), 4);
      numbers(x, 0, bits, 0, 0, 1, 2, 3);
      sheet(x, 0, bits, 0, 1, 2, 3, 4);
      due(x.move(0, 1, 0, 0, 4), 4);
      numbers(x, 0, bits, 1, 2, 3, 4, 4);
      due(x.move(0, 0, 0, 0, 5), 5);
      numbers(x, 0, bits, 1, 2, 3, 4, 4);
      sheet(x, 1, bits, 6, 6, 6);
      due(x.move(0, 2, 1, 1, 2), 2);
      numbers(x, 1, bits, 6, 3, 4);
      numbers(x, 0, bits, 1, 2, 3, 4, 4);
    }
  }

  // ---- promise 31: wearsAll

  @Says("Promise 31: BEYOND: no such SHEET.")
  static void promise31BeyondOfSheet() {
    ends(SheetsEdgesTest::pair, 0, 3, (x, sheet) -> x.wearsAll(sheet));
  }

  @Says("Promise 31: NONE: it is missing (nothing changes).")
  static void promise31NoneOfAMissingSheet() {
    refused(NONE, Edges::full, x -> x.wearsAll(3));
    WrongCoats x = full();
    x.wearsAll(3);
    due(x.guestIs(0, 3), 1);
    due(x.guestIs(2, 3), 4);
    due(x.wearsAll(2), 4);
  }

  @Says("Promise 31: then numbers of a SHEET are the COATS that GUESTS 0, 1, .. wear (-1: none): how many")
  static void promise31NoneForSomeOrForAll() {
    wearsAll(4, row(-1, 0, -1, 1), -1, 0, -1, 1);
    wearsAll(4, row(0, -1, 4, -1), 0, -1, 4, -1);
    wearsAll(1, row(-1), -1);
  }

  @Says("Promise 31: up to the first that is none of COATS and not -1")
  static void promise31UpToTheFirstThatIsNoCoat() {
    wearsAll(4, row(4, 3, -1, 0), 4, 3, -1, 0);
    wearsAll(0, row(), 5, 3, -1, 0);
    wearsAll(0, row(), -2, 3, -1, 0);
    wearsAll(1, row(4), 4, 5, 0, 1);
    wearsAll(3, row(4, -1, 0), 4, -1, 0, -2);
    wearsAll(2, row(1, 0), 1, 0, MOST_INT, 2);
    wearsAll(2, row(1, 0), 1, 0, LEAST_INT, 2);
    wearsAll(2, row(1, 0), 1, 0, 7, 2);
  }

  @Says("Promise 31: or that one ahead wears (no ERROR then)")
  static void promise31UpToTheFirstThatOneAheadWears() {
    wearsAll(1, row(4), 4, 4, 0, 1);
    wearsAll(3, row(0, 1, 2), 0, 1, 2, 0);
    wearsAll(3, row(0, 1, 2), 0, 1, 2, 2);
    wearsAll(4, row(-1, -1, -1, -1), -1, -1, -1, -1);
    wearsAll(4, row(3, 2, 1, 0), 3, 2, 1, 0);
  }

  @Says("Promise 31: or for which there is nobody")
  static void promise31UpToTheFirstForWhichThereIsNobody() {
    wearsAll(4, row(0, 1, 2, 3), 0, 1, 2, 3, 4);
    wearsAll(4, row(0, 1, 2, 3), 0, 1, 2, 3, -1);
    WrongCoats x = house(7, 7);
    x.sheet(0, 8, 24);
    for (int i = 0; i < 24; i++) {
      x.put(0, i, i < 7 ? 6 - i : -1);
    }
    due(x.wearsAll(0), 7);
    due(x.guestIs(0, 3), 6);
    due(x.guestIs(6, 3), 0);
    WrongCoats nobody = house(0, 7);
    sheet(nobody, 0, 8, 0, -1);
    due(nobody.wearsAll(0), 0);
    due(nobody.left(0), 127);
  }

  @Says("Promise 31: Nobody wears any COAT any more")
  static void promise31NobodyElseWearsAnyMore() {
    wearsAll(0, row());
    wearsAll(1, row(3), 3);
    wearsAll(2, row(-1, 0), -1, 0);
  }

  // ---- promise 32: judge

  @Says("Promise 32: BEYOND: no such SHEET.")
  static void promise32BeyondOfSheet() {
    ends(SheetsEdgesTest::pair, 0, 3, (x, sheet) -> x.judge(sheet));
  }

  @Says("Promise 32: NONE: it is missing.")
  static void promise32NoneOfAMissingSheet() {
    refused(NONE, Edges::full, x -> x.judge(3));
    refused(NONE, WrongCoats::new, x -> x.judge(0));
    due(taken(Edges::full, x -> x.judge(0)), 2);
  }

  @Says("Promise 32: how many are right, from the first on.")
  static void promise32UpToTheFirstThatIsWrong() {
    WrongCoats x = house(4, 5);
    x.wears(0, 4);
    x.wears(2, 0);
    int[][] told = {
      {4, -1, 0, -1}, {4, -1, 0, 3}, {4, -1, -1, -1}, {4, 0, 0, -1}, {-1, -1, 0, -1}, {4, -1, 0},
      {}, {260, -1, 0, -1}
    };
    int[] right = {4, 3, 2, 1, 0, 3, 0, 0};
    for (int i = 0; i < told.length; i++) {
      sheet(x, 0, 32, told[i]);
      due(x.judge(0), right[i]);
    }
    sheet(x, 0, 8, 260, 255, 256, -1);
    due(x.judge(0), 4);
  }

  @Says("Promise 32: Numbers of a SHEET are what GUESTS 0, 1, .. wear (-1: none)")
  static void promise32NoneIsRightForWhomThereIsNobody() {
    WrongCoats x = house(2, 2);
    sheet(x, 0, 8, -1, -1);
    due(x.judge(0), 2);
    sheet(x, 0, 8, -1, -1, -1);
    due(x.judge(0), 2);
    sheet(x, 0, 8, -1, -1, 0);
    due(x.judge(0), 2);
    WrongCoats nobody = new WrongCoats();
    sheet(nobody, 0, 8, -1);
    due(nobody.judge(0), 0);
    sheet(nobody, 0, 8, 0);
    due(nobody.judge(0), 0);
    WrongCoats seven = house(7, 7);
    sheet(seven, 0, 8, -1, -1, -1, -1, -1, -1, -1, -1);
    due(seven.judge(0), 7);
  }

  public static void main(String[] args) throws Exception {
    run(SheetsEdgesTest.class);
  }
}
