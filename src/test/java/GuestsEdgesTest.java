/** The edges of promises 1 to 11: a new object, guests, coats. */
public final class GuestsEdgesTest extends Edges {

  // ---- promise 1: a new object

  @Says({
    "Promise 1: All as at first; no GUESTS, no COATS, no TEXTS.",
    "Terms: NIGHT (0 .. 9999; 0 at first)",
    "Terms: GLAD (-99999 .. 99999; 0 at first)",
    "Terms: DRAWS: z is told (1 at first)"
  })
  static void promise1CountsAreAsAtFirst() {
    WrongCoats x = new WrongCoats();
    for (int what = 0; what <= 6; what++) {
      due(x.count(what), 0);
    }
    due(x.count(7), 1);
    for (int k = 1; k <= 6; k++) {
      due(x.told(k), 0);
    }
  }

  @Says("Promise 1: no GUESTS, no COATS, no TEXTS.")
  static void promise1NoGuestNoCoatNoText() {
    refused(BEYOND, WrongCoats::new, x -> x.guestIs(0, 0));
    refused(BEYOND, WrongCoats::new, x -> x.coatIs(0, 0));
    due(new WrongCoats().untell(0), 0);
    due(new WrongCoats().untell(1), 0);
    due(new WrongCoats().law(0, 55, 1, 2), 55);
    due(new WrongCoats().law(1, -55, 1, 2), -55);
  }

  @Says({"Promise 1: All as at first", "Terms: or missing (as at first)"})
  static void promise1NoSheetNoTraceNoImageNoNumber() {
    for (int s = 0; s <= 3; s++) {
      int sheet = s;
      refused(NONE, WrongCoats::new, x -> x.judge(sheet));
    }
    refused(NONE, WrongCoats::new, x -> x.body(0));
    refused(NONE, WrongCoats::new, WrongCoats::restore);
    due(new WrongCoats().check(), 0);
    due(new WrongCoats().image(), 1);
  }

  @Says("Promise 1: All as at first")
  static void promise1ObjectsShareNothing() {
    WrongCoats one = full();
    WrongCoats other = new WrongCoats();
    due(one.count(0), 4);
    for (int what = 0; what <= 6; what++) {
      due(other.count(what), 0);
    }
    due(other.told(1), 0);
    due(other.untell(0), 0);
    due(other.restore(), NONE);
  }

  // ---- promise 2: guest

  @Says({"Promise 2: BEYOND.", "Terms: WIT (0 .. 9)"})
  static void promise2BeyondOfWit() {
    ends(Edges::full, 0, 9, (x, wit) -> x.guest(wit, 5, 2));
    WrongCoats x = new WrongCoats();
    due(x.guest(0, 5, 2), 0);
    due(x.guest(9, 5, 2), 1);
    due(x.guestIs(0, 0), 0);
    due(x.guestIs(1, 0), 9);
  }

  @Says({"Promise 2: BEYOND.", "Terms: SIZE (0 .. 9)"})
  static void promise2BeyondOfSize() {
    ends(Edges::full, 0, 9, (x, size) -> x.guest(5, size, 2));
    WrongCoats x = new WrongCoats();
    x.guest(5, 0, 2);
    x.guest(5, 9, 2);
    due(x.guestIs(0, 1), 0);
    due(x.guestIs(1, 1), 9);
  }

  @Says({"Promise 2: BEYOND.", "Terms: SMELL (0 .. 3)"})
  static void promise2BeyondOfSmell() {
    ends(Edges::full, 0, 3, (x, smell) -> x.guest(5, 5, smell));
    WrongCoats x = new WrongCoats();
    x.guest(5, 5, 0);
    x.guest(5, 5, 3);
    due(x.guestIs(0, 2), 0);
    due(x.guestIs(1, 2), 3);
  }

  @Says({"Promise 2: FULL.", "Terms: GUESTS 0, 1, .. (at most 7)"})
  static void promise2FullAfter7Guests() {
    due(taken(() -> house(6, 7), x -> x.guest(9, 9, 3)), 6);
    refused(FULL, () -> house(7, 7), x -> x.guest(9, 9, 3));
    refused(FULL, () -> house(7, 0), x -> x.guest(0, 0, 0));
    refused(FULL, Edges::crowd, x -> x.guest(0, 0, 0));
  }

  @Says({
    "Promise 2: BEYOND. FULL.",
    "Terms: Each act tells its ERRORS in the order in which they are asked"
  })
  static void promise2BeyondAheadOfFull() {
    refused(BEYOND, Edges::crowd, x -> x.guest(10, 0, 0));
    refused(BEYOND, Edges::crowd, x -> x.guest(0, -1, 0));
    refused(BEYOND, Edges::crowd, x -> x.guest(0, 0, 4));
  }

  @Says("Promise 2: One of GUESTS more: the number.")
  static void promise2NumbersFrom0To6() {
    WrongCoats x = new WrongCoats();
    for (int i = 0; i < 7; i++) {
      due(x.guest(0, 0, 0), i);
      due(x.count(0), i + 1);
    }
  }

  @Says("Terms: HAS (the COAT that one wears; -1: none, as at first)")
  static void promise2WearsNoneAtFirst() {
    WrongCoats x = house(6, 7);
    x.image();
    x.guest(0, 0, 0);
    x.wears(6, 0);
    x.restore();
    due(x.guest(0, 0, 0), 6);
    due(x.guestIs(6, 3), -1);
    due(x.coatIs(0, 3), -1);
  }

  // ---- promise 3: guestIs

  @Says("Promise 3: BEYOND.")
  static void promise3BeyondOfGuest() {
    ends(Edges::full, 0, 3, (x, guest) -> x.guestIs(guest, 3));
    ends(Edges::crowd, 0, 6, (x, guest) -> x.guestIs(guest, 3));
    refused(BEYOND, WrongCoats::new, x -> x.guestIs(0, 3));
  }

  @Says("Promise 3: BEYOND.")
  static void promise3BeyondOfWhat() {
    ends(Edges::full, 0, 4, (x, what) -> x.guestIs(0, what));
    refused(BEYOND, Edges::full, x -> x.guestIs(4, 5));
  }

  @Says("Promise 3: (any number; 0: he wears none)")
  static void promise3DoneNowIs0WhenHeWearsNone() {
    WrongCoats x = house(2, 1);
    text(x, 1, "0-99");
    due(x.guestIs(0, 4), 0);
    x.wears(0, 0);
    due(x.guestIs(0, 4), -99);
    due(x.guestIs(1, 4), 0);
    x.wears(0, -1);
    due(x.guestIs(0, 4), 0);
    text(x, 1, "99");
    x.wears(1, 0);
    due(x.guestIs(1, 4), 99);
  }

  // ---- promise 4: coat

  @Says({"Promise 4: BEYOND.", "Terms: each with a number m (0 .. 9)", "Terms: 6 LETTER under COAT"})
  static void promise4BeyondOfKindAndNumber() {
    ends(Edges::full, 0, 69, (x, km) -> x.coat(km, 0));
    WrongCoats x = new WrongCoats();
    int[] kms = {0, 9, 10, 59, 60, 69};
    int[] kinds = {0, 0, 1, 5, 6, 6};
    int[] numbers = {0, 9, 0, 9, 0, 9};
    for (int i = 0; i < kms.length; i++) {
      due(x.coat(kms[i], -1), i);
      due(x.coatIs(i, 0), kinds[i]);
      due(x.coatIs(i, 1), numbers[i]);
    }
  }

  @Says({"Promise 4: BEYOND.", "Terms: an OWNER (one of the GUESTS, or nobody: -1)"})
  static void promise4BeyondOfOwner() {
    ends(Edges::full, -1, 3, (x, owner) -> x.coat(5, owner));
    ends(() -> house(7, 6), -1, 6, (x, owner) -> x.coat(5, owner));
    WrongCoats x = house(7, 0);
    x.coat(5, -1);
    x.coat(5, 6);
    due(x.coatIs(0, 2), -1);
    due(x.coatIs(1, 2), 6);
  }

  @Says({"Promise 4: owner -1: nobody", "Promise 4: BEYOND."})
  static void promise4OwnedByNobodyWithoutGuests() {
    ends(WrongCoats::new, -1, -1, (x, owner) -> x.coat(5, owner));
  }

  @Says({"Promise 4: FULL.", "Terms: COATS 0, 1, .. (at most 7)"})
  static void promise4FullAfter7Coats() {
    due(taken(() -> house(7, 6), x -> x.coat(69, 6)), 6);
    refused(FULL, () -> house(7, 7), x -> x.coat(69, 6));
    refused(FULL, () -> house(0, 7), x -> x.coat(0, -1));
    refused(FULL, Edges::crowd, x -> x.coat(0, -1));
  }

  @Says("Promise 4: BEYOND. FULL.")
  static void promise4BeyondAheadOfFull() {
    refused(BEYOND, Edges::crowd, x -> x.coat(70, 0));
    refused(BEYOND, Edges::crowd, x -> x.coat(0, 7));
  }

  @Says("Promise 4: the number.")
  static void promise4NumbersFrom0To6() {
    WrongCoats x = new WrongCoats();
    for (int i = 0; i < 7; i++) {
      due(x.coat(0, -1), i);
      due(x.count(1), i + 1);
    }
  }

  // ---- promise 5: coatIs

  @Says("Promise 5: BEYOND.")
  static void promise5BeyondOfCoat() {
    ends(Edges::full, 0, 4, (x, coat) -> x.coatIs(coat, 3));
    ends(Edges::crowd, 0, 6, (x, coat) -> x.coatIs(coat, 3));
    refused(BEYOND, () -> house(3, 0), x -> x.coatIs(0, 3));
  }

  @Says("Promise 5: BEYOND.")
  static void promise5BeyondOfWhat() {
    ends(Edges::full, 0, 3, (x, what) -> x.coatIs(0, what));
    refused(BEYOND, Edges::full, x -> x.coatIs(5, 4));
  }

  @Says("Promise 5: 3 who wears it (-1: nobody)")
  static void promise5WornByTheFirstTheLastOrNobody() {
    WrongCoats x = house(7, 7);
    x.wears(0, 6);
    x.wears(6, 0);
    due(x.coatIs(6, 3), 0);
    due(x.coatIs(0, 3), 6);
    for (int c = 1; c < 6; c++) {
      due(x.coatIs(c, 3), -1);
    }
  }

  // ---- promise 6: become

  @Says("Promise 6: BEYOND.")
  static void promise6BeyondOfCoat() {
    ends(Edges::full, 0, 4, (x, coat) -> x.become(coat, 35));
    ends(Edges::crowd, 0, 6, (x, coat) -> x.become(coat, 35));
    refused(BEYOND, WrongCoats::new, x -> x.become(0, 35));
  }

  @Says("Promise 6: BEYOND.")
  static void promise6BeyondOfKindAndNumber() {
    ends(Edges::full, 0, 69, (x, km) -> x.become(2, km));
    WrongCoats x = full();
    due(x.become(2, 69), 2);
    due(x.coatIs(2, 0), 6);
    due(x.coatIs(2, 1), 9);
    due(x.become(2, 0), 6);
    due(x.coatIs(2, 0), 0);
    due(x.coatIs(2, 1), 0);
    due(x.become(2, 9), 0);
    due(x.coatIs(2, 1), 9);
    due(x.become(2, 10), 0);
    due(x.coatIs(2, 0), 1);
  }

  @Says("Promise 6: A COAT becomes one of a KIND, with m (km): the KIND that it was.")
  static void promise6OwnerAndWearerStay() {
    WrongCoats x = full();
    due(x.become(1, 63), 1);
    due(x.coatIs(1, 2), 1);
    due(x.coatIs(1, 3), 0);
    due(x.coatIs(0, 0), 0);
    due(x.coatIs(2, 0), 2);
  }

  // ---- promise 7: as

  @Says("Promise 7: BEYOND.")
  static void promise7BeyondOfCoat() {
    ends(Edges::full, 0, 4, (x, coat) -> x.as(coat, 0));
    ends(Edges::crowd, 0, 6, (x, coat) -> x.as(coat, 0));
    refused(BEYOND, WrongCoats::new, x -> x.as(0, 0));
  }

  @Says("Promise 7: BEYOND.")
  static void promise7BeyondOfKind() {
    ends(Edges::crowd, 0, 6, (x, kind) -> x.as(6, kind));
    due(taken(Edges::crowd, x -> x.as(6, 6)), 9);
  }

  @Says({
    "Promise 7: KIND: it isn't of that KIND, nor of one under it.",
    "Terms: 0 COAT, 1 ULSTER under COAT, 2 CAPE under COAT, 3 HUNTING under COAT,"
        + " 4 DRESS under ULSTER, 5 CLOAK under CAPE, 6 LETTER under COAT"
  })
  static void promise7KindOfEachAsEach() {
    String[] is = {"0", "01", "02", "03", "014", "025", "06"};
    for (int kind = 0; kind <= 6; kind++) {
      int km = 10 * kind + kind;
      Made made = () -> {
        WrongCoats x = full();
        x.coat(km, -1);
        return x;
      };
      for (int asked = 0; asked <= 6; asked++) {
        int as = asked;
        if (is[kind].indexOf('0' + asked) >= 0) {
          due(taken(made, x -> x.as(5, as)), kind);
        } else {
          refused(KIND, made, x -> x.as(5, as));
        }
      }
    }
  }

  @Says("Promise 7: BEYOND. KIND")
  static void promise7BeyondAheadOfKind() {
    refused(BEYOND, Edges::full, x -> x.as(0, 7));
    refused(BEYOND, Edges::full, x -> x.as(5, 6));
  }

  // ---- promises 8 and 9: like, done

  @Says("Promise 8: BEYOND.")
  static void promise8BeyondOfCoat() {
    ends(Edges::full, 0, 4, (x, coat) -> x.like(coat, 0));
    ends(Edges::crowd, 0, 6, (x, coat) -> x.like(coat, 6));
    refused(BEYOND, () -> house(3, 0), x -> x.like(0, 0));
  }

  @Says("Promise 8: BEYOND.")
  static void promise8BeyondOfGuest() {
    ends(Edges::full, 0, 3, (x, guest) -> x.like(4, guest));
    ends(Edges::crowd, 0, 6, (x, guest) -> x.like(6, guest));
    refused(BEYOND, () -> house(0, 3), x -> x.like(0, 0));
  }

  @Says("Promise 9: BEYOND.")
  static void promise9BeyondOfCoat() {
    ends(Edges::full, 0, 4, (x, coat) -> x.done(coat, 0));
    ends(Edges::crowd, 0, 6, (x, coat) -> x.done(coat, 6));
    refused(BEYOND, () -> house(3, 0), x -> x.done(0, 0));
  }

  @Says("Promise 9: BEYOND.")
  static void promise9BeyondOfGuest() {
    ends(Edges::full, 0, 3, (x, guest) -> x.done(4, guest));
    ends(Edges::crowd, 0, 6, (x, guest) -> x.done(6, guest));
    refused(BEYOND, () -> house(0, 3), x -> x.done(0, 0));
  }

  @Says("Promise 9: DONE, by a guest in a COAT, now (any number).")
  static void promise9DoneMayBeBelow0() {
    WrongCoats x = house(2, 2);
    x.become(0, 49);
    due(x.done(0, 0), -9);
    text(x, 1, "0-99");
    due(x.done(0, 0), -99);
    due(x.told(1), 0);
  }

  // ---- promise 10: wears

  @Says("Promise 10: BEYOND.")
  static void promise10BeyondOfGuest() {
    ends(Edges::full, 0, 3, (x, guest) -> x.wears(guest, 2));
    ends(Edges::crowd, 0, 6, (x, guest) -> x.wears(guest, 2));
    refused(BEYOND, () -> house(0, 3), x -> x.wears(0, 0));
    refused(BEYOND, WrongCoats::new, x -> x.wears(0, -1));
  }

  @Says("Promise 10: BEYOND.")
  static void promise10BeyondOfCoat() {
    ends(() -> house(3, 5), -1, 4, (x, coat) -> x.wears(1, coat));
    ends(() -> house(7, 7), -1, 6, (x, coat) -> x.wears(6, coat));
    ends(() -> house(3, 0), -1, -1, (x, coat) -> x.wears(0, coat));
  }

  @Says("Promise 10: STATE: another one wears it.")
  static void promise10StateWhenAnotherWearsIt() {
    refused(STATE, Edges::full, x -> x.wears(1, 1));
    refused(STATE, Edges::full, x -> x.wears(0, 4));
    refused(STATE, Edges::full, x -> x.wears(2, 1));
    Made last = () -> {
      WrongCoats x = house(7, 7);
      x.wears(6, 6);
      return x;
    };
    refused(STATE, last, x -> x.wears(0, 6));
    due(taken(last, x -> x.wears(6, 6)), 6);
    due(taken(last, x -> x.wears(0, 5)), -1);
  }

  @Says("Promise 10: A guest wears a COAT (-1: none): what he wore.")
  static void promise10TheSameAgainAnotherOrNone() {
    WrongCoats x = full();
    due(x.wears(0, 1), 1);
    due(x.wears(0, 0), 1);
    due(x.wears(1, 1), -1);
    due(x.wears(0, -1), 0);
    due(x.wears(0, -1), -1);
    due(x.wears(3, -1), -1);
    due(x.guestIs(1, 3), 1);
    due(x.coatIs(0, 3), -1);
  }

  @Says("Promise 10: BEYOND. STATE")
  static void promise10BeyondAheadOfState() {
    refused(BEYOND, Edges::full, x -> x.wears(4, 1));
    refused(BEYOND, Edges::full, x -> x.wears(-1, 1));
  }

  // ---- promise 11: leaves

  @Says("Promise 11: BEYOND.")
  static void promise11BeyondOfGuest() {
    ends(() -> house(4, 5), 0, 3, (x, guest) -> x.leaves(guest));
    ends(() -> house(7, 7), 0, 6, (x, guest) -> x.leaves(guest));
    refused(BEYOND, () -> house(0, 3), x -> x.leaves(0));
  }

  @Says("Promise 11: STATE: he wears one.")
  static void promise11StateWhenHeWearsOne() {
    refused(STATE, Edges::full, x -> x.leaves(0));
    refused(STATE, Edges::full, x -> x.leaves(2));
    due(taken(Edges::full, x -> x.leaves(1)), 0);
    WrongCoats x = house(1, 1);
    due(x.leaves(0), 0);
    due(x.leaves(0), STATE);
    x.wears(0, -1);
    due(x.leaves(0), 0);
  }

  @Says({"Promise 11: NONE: none HANGS.", "Terms: if none HANGS, none"})
  static void promise11NoneWhenNoneHangs() {
    refused(NONE, () -> house(1, 0), x -> x.leaves(0));
    Made oneHangs = () -> {
      WrongCoats x = house(7, 7);
      for (int g = 0; g < 6; g++) {
        x.wears(g, 6 - g);
      }
      return x;
    };
    due(taken(oneHangs, x -> x.leaves(6)), 0);
    Made allWorn = () -> {
      WrongCoats x = house(7, 6);
      for (int g = 0; g < 6; g++) {
        x.wears(g, g);
      }
      return x;
    };
    refused(NONE, allWorn, x -> x.leaves(6));
  }

  @Says("Promise 11: BEYOND. STATE: he wears one. NONE: none HANGS.")
  static void promise11StateAheadOfNone() {
    Made worn = () -> {
      WrongCoats x = house(2, 1);
      x.wears(0, 0);
      return x;
    };
    refused(STATE, worn, x -> x.leaves(0));
    refused(NONE, worn, x -> x.leaves(1));
    refused(BEYOND, worn, x -> x.leaves(2));
    refused(BEYOND, WrongCoats::new, x -> x.leaves(0));
  }

  public static void main(String[] args) throws Exception {
    run(GuestsEdgesTest.class);
  }
}
