/** The edges of the best giving, orders, odds and what fits: promises 20 to 25, part 3 of the Terms. */
public final class ThoughtEdgesTest extends Edges {

  /** All COATS are as LIKE, so that the least that HANGS is given. */
  private static WrongCoats alike(int guests, int coats) {
    WrongCoats x = house(guests, coats);
    text(x, 0, "7");
    return x;
  }

  private static WrongCoats doing(WrongCoats x, String done) {
    due(text(x, 1, done), 1);
    return x;
  }

  private static void best(WrongCoats x, int sum, int... given) {
    due(x.best(-1), sum);
    for (int g = 0; g < given.length; g++) {
      due(x.best(g), given[g]);
    }
  }

  private static void order(WrongCoats x, int sum, int... leave) {
    due(x.order(-1), sum);
    for (int i = 0; i < leave.length; i++) {
      due(x.order(i), leave[i]);
    }
  }

  private static void odds(WrongCoats x, int guest, int above, int below) {
    due(x.odds(guest, 0), above);
    due(x.odds(guest, 1), below);
  }

  // ---- promise 20: best

  @Says({"Promise 20: what -1 what it comes to, 0 .. 6 the COAT of that guest (-1: none)", "Promise 20: BEYOND."})
  static void promise20BeyondOfWhat() {
    ends(Edges::crowd, -1, 6, (x, what) -> x.best(what));
  }

  @Says("Promise 20: NONE: there is no such guest.")
  static void promise20NoneOfNoSuchGuest() {
    taken(Edges::full, x -> x.best(3));
    refused(NONE, Edges::full, x -> x.best(4));
    refused(NONE, Edges::full, x -> x.best(6));
    due(taken(() -> house(0, 7), x -> x.best(-1)), 0);
    refused(NONE, () -> house(0, 7), x -> x.best(0));
    taken(() -> house(6, 7), x -> x.best(5));
    refused(NONE, () -> house(6, 7), x -> x.best(6));
    due(taken(() -> house(7, 7), x -> x.best(6)), 6);
  }

  @Says("Promise 20: BEYOND. NONE")
  static void promise20BeyondAheadOfNone() {
    refused(BEYOND, WrongCoats::new, x -> x.best(7));
    refused(BEYOND, Edges::full, x -> x.best(7));
    refused(BEYOND, WrongCoats::new, x -> x.best(-2));
  }

  @Says("Terms: BEST: each of GUESTS wears one of COATS or none, no COAT two")
  static void termsBestOfNoCoatTwo() {
    best(doing(house(2, 1), "w+1"), 2, -1, 0);
    best(doing(house(7, 1), "w+1"), 7, -1, -1, -1, -1, -1, -1, 0);
    best(house(3, 0), 0, -1, -1, -1);
    best(new WrongCoats(), 0);
    best(doing(house(2, 7), "5"), 10, 0, 1);
  }

  @Says("Terms: so that what is DONE by all is most together")
  static void termsBestAtTheEndsOfDone() {
    best(doing(house(7, 7), "99"), 693, 0, 1, 2, 3, 4, 5, 6);
    best(doing(house(7, 7), "0-99"), 0, -1, -1, -1, -1, -1, -1, -1);
    best(doing(house(1, 1), "1"), 1, 0);
    best(doing(house(1, 1), "0-1"), 0, -1);
  }

  @Says("Terms: by GUESTS: each the least COAT with which that is still come to")
  static void termsBestGivesEachTheLeastCoat() {
    best(doing(house(3, 3), "5"), 15, 0, 1, 2);
    best(doing(house(3, 2), "5"), 10, 0, 1, -1);
    WrongCoats x = house(2, 0);
    x.coat(4, 1);
    x.coat(4, -1);
    best(doing(x, "5+o*4-w*5"), 9, 1, 0);
    best(doing(x, "5+o*0"), 10, 0, 1);
  }

  @Says("Terms: none only if with none of them it is")
  static void termsBestGivesNoneOnlyIfItMust() {
    best(doing(house(1, 1), "0"), 0, 0);
    best(doing(house(3, 2), "0"), 0, 0, 1, -1);
    best(doing(house(7, 7), "0"), 0, 0, 1, 2, 3, 4, 5, 6);
    best(doing(house(3, 3), "w-1"), 1, -1, 0, 1);
    WrongCoats x = house(1, 0);
    x.coat(4, -1);
    x.coat(4, 0);
    best(doing(x, "o-1"), 0, 1);
  }

  @Says("Terms: none only if with none of them it is")
  static void termsBestGivesNoneToOneBetween() {
    best(doing(house(3, 2), "(w-1)*(w-1)*9-5"), 8, 0, -1, 1);
    best(doing(house(3, 7), "(w-1)*(w-1)*9-5"), 8, 0, -1, 1);
  }

  @Says("Promise 20: BEST: what -1 what it comes to")
  static void promise20AgainWithFewerGuestsOrLess() {
    WrongCoats x = doing(house(3, 0), "w+1");
    x.image();
    x.guest(9, 0, 0);
    x.coat(4, -1);
    x.coat(4, -1);
    best(x, 13, -1, -1, 0, 1);
    x.restore();
    best(x, 0, -1, -1, -1);
    x.coat(4, -1);
    best(x, 3, -1, -1, 0);
    best(doing(x, "0-1"), 0, -1, -1, -1);
  }

  @Says("Promise 21: ORDER: what -1 what it comes to (any number)")
  static void promise21AgainWhenItComesToLess() {
    WrongCoats x = doing(alike(3, 1), "w");
    order(x, 2, 2, 0, 1);
    order(doing(x, "0-w"), 0, 0, 1, 2);
    order(doing(x, "0-9-w"), -9, 0, 1, 2);
  }

  @Says({
    "Terms: what GUESTS wear counts for nothing in BEST, ORDER, ODDS, FITS.",
    "Terms: ORDER: of all orders in which GUESTS could LEAVE (nobody wearing any at first)",
    "Terms: if all LEAVE (nobody wearing any at first), from any one on"
  })
  static void termsWhatIsWornCountsForNothing() {
    WrongCoats x = alike(3, 3);
    x.become(2, 64);
    sheet(x, 0, 8, 0, 1, 2);
    best(x, 33, 2, 0, 1);
    order(x, 33, 1, 2, 0);
    x.wears(0, 0);
    x.wears(1, 1);
    x.wears(2, 2);
    best(x, 33, 2, 0, 1);
    order(x, 33, 1, 2, 0);
    odds(x, 0, 0, 1);
    due(x.fits(0, 0), 1);
    due(x.right(), 0);
    due(x.left(0), 0);
    for (int g = 0; g < 3; g++) {
      due(x.guestIs(g, 3), g);
    }
  }

  // ---- promise 21: order

  @Says({"Promise 21: 0 .. 6 who LEAVES as the first, second, ..", "Promise 21: BEYOND."})
  static void promise21BeyondOfWhat() {
    taken(() -> house(6, 7), x -> x.order(-1));
    taken(() -> house(6, 7), x -> x.order(5));
    for (int what : new int[] {-2, 7, LEAST_INT, MOST_INT}) {
      refused(BEYOND, () -> house(6, 7), x -> x.order(what));
    }
  }

  @Says("Promise 21: STATE: there are 7 GUESTS.")
  static void promise21StateOf7Guests() {
    for (int what = -1; what <= 6; what++) {
      int asked = what;
      refused(STATE, Edges::crowd, x -> x.order(asked));
    }
    refused(STATE, () -> house(7, 0), x -> x.order(-1));
    due(taken(() -> house(6, 0), x -> x.order(-1)), 0);
  }

  @Says("Promise 21: NONE: there is no such place.")
  static void promise21NoneOfNoSuchPlace() {
    taken(Edges::full, x -> x.order(3));
    refused(NONE, Edges::full, x -> x.order(4));
    refused(NONE, Edges::full, x -> x.order(6));
    refused(NONE, () -> house(6, 7), x -> x.order(6));
    due(taken(() -> house(6, 7), x -> x.order(5)), 5);
    refused(NONE, WrongCoats::new, x -> x.order(0));
    due(taken(WrongCoats::new, x -> x.order(-1)), 0);
  }

  @Says("Promise 21: BEYOND. STATE: there are 7 GUESTS. NONE: there is no such place.")
  static void promise21BeyondAheadOfStateAndNone() {
    refused(BEYOND, Edges::crowd, x -> x.order(7));
    refused(BEYOND, Edges::crowd, x -> x.order(-2));
    refused(BEYOND, Edges::full, x -> x.order(7));
    refused(BEYOND, WrongCoats::new, x -> x.order(7));
  }

  @Says("Promise 21: what -1 what it comes to (any number)")
  static void promise21MayComeToLessThan0() {
    order(doing(alike(6, 7), "0-99"), -594, 0, 1, 2, 3, 4, 5);
    order(doing(alike(6, 6), "99"), 594, 0, 1, 2, 3, 4, 5);
    order(doing(alike(6, 1), "w-9"), -4, 5, 0, 1, 2, 3, 4);
    order(doing(alike(1, 1), "0-1"), -1, 0);
  }

  @Says("Terms: of several the first by GUESTS who LEAVE first, second, .. (the least)")
  static void termsOrderOfSeveralTheLeast() {
    order(doing(alike(6, 6), "5"), 30, 0, 1, 2, 3, 4, 5);
    order(doing(alike(6, 1), "w"), 5, 5, 0, 1, 2, 3, 4);
    order(doing(alike(6, 2), "w"), 9, 4, 5, 0, 1, 2, 3);
    order(doing(alike(4, 0), "w"), 0, 0, 1, 2, 3);
  }

  // ---- promise 22: right

  @Says({"Promise 22: RIGHT.", "Terms: RIGHT: how many wear their own."})
  static void promise22From0To7() {
    due(new WrongCoats().right(), 0);
    WrongCoats x = house(7, 0);
    for (int g = 0; g < 7; g++) {
      x.coat(4, g);
      due(x.right(), g);
      x.wears(g, g);
    }
    due(x.right(), 7);
    x.wears(6, -1);
    x.wears(0, 6);
    due(x.right(), 5);
  }

  @Says("Terms: RIGHT: how many wear their own.")
  static void promise22NobodysCoatIsNobodysOwn() {
    WrongCoats x = house(3, 3);
    x.wears(0, 0);
    due(x.right(), 0);
    WrongCoats none = house(3, 0);
    due(none.right(), 0);
    none.coat(4, 0);
    due(none.right(), 0);
  }

  // ---- promise 23: left

  @Says("Promise 23: BEYOND.")
  static void promise23BeyondOfWhat() {
    ends(Edges::full, 0, 1, (x, what) -> x.left(what));
    ends(WrongCoats::new, 0, 1, (x, what) -> x.left(what));
  }

  @Says({"Promise 23: LEFT: what 0 the set, 1 how many.", "Terms: One that nobody wears HANGS."})
  static void promise23FromNoneToAll() {
    WrongCoats x = house(7, 0);
    due(x.left(0), 0);
    due(x.left(1), 0);
    for (int c = 0; c < 7; c++) {
      x.coat(4, -1);
      due(x.left(0), (2 << c) - 1);
      due(x.left(1), c + 1);
    }
    for (int g = 0; g < 7; g++) {
      x.wears(g, 6 - g);
      due(x.left(0), (1 << (6 - g)) - 1);
      due(x.left(1), 6 - g);
    }
  }

  // ---- promise 24: odds

  @Says("Promise 24: BEYOND.")
  static void promise24BeyondOfGuest() {
    ends(Edges::full, 0, 3, (x, guest) -> x.odds(guest, 1));
    ends(Edges::crowd, 0, 6, (x, guest) -> x.odds(guest, 1));
    refused(BEYOND, () -> house(0, 7), x -> x.odds(0, 1));
  }

  @Says({"Promise 24: part 0 above, 1 below the line.", "Promise 24: BEYOND."})
  static void promise24BeyondOfPart() {
    ends(Edges::full, 0, 1, (x, part) -> x.odds(0, part));
  }

  @Says("Terms: (0 is 0 by 1)")
  static void termsOddsOf0Are0By1() {
    odds(alike(7, 0), 6, 0, 1);
    odds(alike(7, 7), 0, 0, 1);
    odds(alike(1, 0), 0, 0, 1);
    WrongCoats x = alike(2, 2);
    x.coat(4, 0);
    odds(x, 0, 0, 1);
  }

  @Says("Terms: a fraction in lowest terms")
  static void termsOddsInLowestTerms() {
    int[] owned = {1, 2, 3, 4, 5, 6};
    int[] above = {1, 1, 1, 2, 5, 1};
    int[] below = {6, 3, 2, 3, 6, 1};
    for (int i = 0; i < 6; i++) {
      WrongCoats x = alike(6, 0);
      for (int c = 0; c < 6; c++) {
        x.coat(4, c < owned[i] ? 3 : -1);
      }
      odds(x, 3, above[i], below[i]);
      odds(x, 2, 0, 1);
    }
  }

  @Says("Terms: from any one on, round, each as likely")
  static void termsOddsOfOneAndOf7() {
    WrongCoats one = alike(1, 0);
    one.coat(4, 0);
    odds(one, 0, 1, 1);
    WrongCoats seven = alike(7, 0);
    for (int c = 0; c < 7; c++) {
      seven.coat(4, c < 3 ? 6 : c == 3 ? 0 : 1);
    }
    odds(seven, 6, 3, 7);
    odds(seven, 0, 1, 7);
    odds(seven, 1, 3, 7);
    odds(seven, 2, 0, 1);
    seven.become(0, 0);
    odds(seven, 6, 3, 7);
  }

  // ---- promise 25: fits

  @Says("Promise 25: BEYOND.")
  static void promise25BeyondOfSheet() {
    Made four = () -> {
      WrongCoats x = full();
      x.sheet(3, 8, 0);
      return x;
    };
    ends(four, 0, 3, (x, sheet) -> x.fits(sheet, 0));
  }

  @Says("Promise 25: BEYOND.")
  static void promise25BeyondOfWhat() {
    Made some = () -> {
      WrongCoats x = full();
      x.sheet(3, 8, 0);
      return x;
    };
    ends(some, 0, 1, (x, what) -> x.fits(3, what));
  }

  @Says("Promise 25: NONE: the SHEET is missing")
  static void promise25NoneOfAMissingSheet() {
    refused(NONE, Edges::full, x -> x.fits(3, 0));
    refused(NONE, Edges::full, x -> x.fits(3, 1));
    due(taken(Edges::full, x -> {
      x.sheet(3, 8, 0);
      return x.fits(3, 0);
    }), 15);
    refused(NONE, WrongCoats::new, x -> x.fits(0, 0));
  }

  @Says("Promise 25: (what 1) there is none.")
  static void promise25NoneWhenNobodyCanBeThatOne() {
    Made noneFits = () -> {
      WrongCoats x = alike(3, 3);
      sheet(x, 0, 8, 0, 0, 0);
      return x;
    };
    due(taken(noneFits, x -> x.fits(0, 0)), 0);
    refused(NONE, noneFits, x -> x.fits(0, 1));
    Made noGuests = () -> {
      WrongCoats x = house(0, 3);
      x.sheet(0, 8, 0);
      return x;
    };
    due(taken(noGuests, x -> x.fits(0, 0)), 0);
    refused(NONE, noGuests, x -> x.fits(0, 1));
  }

  @Says("Promise 25: BEYOND. NONE")
  static void promise25BeyondAheadOfNone() {
    refused(BEYOND, Edges::full, x -> x.fits(3, 2));
    refused(BEYOND, Edges::full, x -> x.fits(3, -1));
    refused(BEYOND, Edges::full, x -> x.fits(4, 1));
  }

  @Says("Terms: all having LEFT from one on, round: who can be that one, as a set; the least.")
  static void termsFitsOfSeveralTheLeast() {
    WrongCoats x = alike(3, 1);
    sheet(x, 0, 8, -1);
    due(x.fits(0, 0), 6);
    due(x.fits(0, 1), 1);
    sheet(x, 0, 8, -1, -1);
    due(x.fits(0, 0), 4);
    due(x.fits(0, 1), 2);
    WrongCoats seven = alike(7, 1);
    sheet(seven, 0, 8, -1, -1, -1, -1, -1);
    due(seven.fits(0, 0), 96);
    due(seven.fits(0, 1), 5);
  }

  @Says("Promise 25: FITS, by a SHEET: what 0 the set, 1 the least.")
  static void promise25TheFirstTheLastAndAll() {
    WrongCoats x = alike(7, 7);
    sheet(x, 0, 8, 0, 1, 2, 3, 4, 5, 6);
    due(x.fits(0, 0), 1);
    due(x.fits(0, 1), 0);
    sheet(x, 1, 16, 1, 2, 3, 4, 5, 6, 0);
    due(x.fits(1, 0), 64);
    due(x.fits(1, 1), 6);
    sheet(x, 2, 32, 0);
    due(x.fits(2, 0), 1);
    x.sheet(3, 8, 0);
    due(x.fits(3, 0), 127);
    due(x.fits(3, 1), 0);
  }

  @Says("Terms: FITS: a SHEET tells what GUESTS 0, 1, .. got (-1: none)")
  static void termsFitsWithNone() {
    WrongCoats x = alike(3, 2);
    sheet(x, 0, 8, 0, 1, -1);
    due(x.fits(0, 0), 1);
    sheet(x, 0, 8, -1);
    due(x.fits(0, 0), 2);
    due(x.fits(0, 1), 1);
    sheet(x, 0, 8, -2);
    due(x.fits(0, 0), 0);
    sheet(x, 0, 16, 2);
    due(x.fits(0, 0), 0);
    WrongCoats noCoats = alike(3, 0);
    sheet(noCoats, 0, 32, -1, -1, -1);
    due(noCoats.fits(0, 0), 7);
    sheet(noCoats, 0, 32, -1, -1, 0);
    due(noCoats.fits(0, 0), 0);
  }

  @Says("Terms: FITS: a SHEET tells what GUESTS 0, 1, .. got")
  static void termsFitsOfFewerAndOfMoreNumbersThanGuests() {
    WrongCoats x = alike(3, 3);
    sheet(x, 0, 8, 0, 1, 2);
    due(x.fits(0, 0), 1);
    sheet(x, 0, 8, 0, 1);
    due(x.fits(0, 0), 1);
    sheet(x, 0, 8, 0, 2);
    due(x.fits(0, 0), 0);
    sheet(x, 0, 8, 0, 1, 2, -1);
    due(x.fits(0, 0), 0);
    sheet(x, 0, 8, 0, 1, 2, 0);
    due(x.fits(0, 0), 0);
    WrongCoats seven = alike(7, 7);
    sheet(seven, 0, 8, 0, 1, 2, 3, 4, 5, 6, -1);
    due(seven.fits(0, 0), 0);
    x.sheet(1, 32, 24);
    due(x.fits(1, 0), 0);
  }

  public static void main(String[] args) throws Exception {
    run(ThoughtEdgesTest.class);
  }
}
