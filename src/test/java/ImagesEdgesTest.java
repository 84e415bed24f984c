/** The edges of images, of numbers that wait, of counts and of what is told: promises 33 to 38. */
public final class ImagesEdgesTest extends Edges {

  private static WrongCoats waiting(int numbers) {
    WrongCoats x = full();
    for (int i = 3; i < numbers; i++) {
      x.tell(i);
    }
    return x;
  }

  /** COATS with these OWNERS, of 7 GUESTS. */
  private static WrongCoats owned(int... owners) {
    WrongCoats x = house(7, 0);
    for (int owner : owners) {
      x.coat(0, owner);
    }
    return x;
  }

  private static void check(WrongCoats x, int want, int... numbers) {
    for (int v : numbers) {
      x.tell(v);
    }
    due(x.check(), want);
    due(x.count(5), 0);
    due(x.check(), 0);
  }

  // ---- promise 33: image

  @Says("Promise 33: how often that was done.")
  static void promise33CountsFrom1On() {
    WrongCoats x = new WrongCoats();
    for (int i = 1; i <= 40; i++) {
      due(x.image(), i);
    }
    due(x.restore(), 0);
    due(x.image(), 41);
  }

  @Says("Promise 33: (but SHEETS, THE TRACE, what told() tells, and how often this was done)")
  static void promise33WhatAnImageDoesNotKeep() {
    WrongCoats x = full();
    sheet(x, 3, 8, 1);
    x.image();
    x.sheet(3, 8, 2);
    x.sheet(0, 0, 0);
    x.voice(0, 0, 1);
    x.guest(10, 0, 0);
    x.image();
    x.restore();
    due(x.judge(0), NONE);
    due(x.put(3, 1, 0), 1);
    due(x.count(6), 1);
    due(x.body(0), 10);
    due(x.told(1), full().told(1) + 1);
    due(x.image(), 5);
  }

  @Says("Promise 33: All (but")
  static void promise33AllThatAnImageKeeps() {
    WrongCoats x = crowd();
    x.image();
    change(x);
    due(x.restore(), 3);
    same(x, crowd());
  }

  private static void change(WrongCoats x) {
    x.nights(3);
    x.become(0, 69);
    x.wears(5, 5);
    x.untell(0);
    x.text(0);
    text(x, 1, "1");
    feed(x, "12345678");
    x.check();
    x.tell(-5);
    x.loose(2);
  }

  private static void same(WrongCoats x, WrongCoats as) {
    for (int what = 0; what <= 7; what++) {
      due(x.count(what), as.count(what));
    }
    for (int g = 0; g < 7; g++) {
      for (int what = 0; what <= 4; what++) {
        due(x.guestIs(g, what), as.guestIs(g, what));
      }
      for (int what = 0; what <= 3; what++) {
        due(x.coatIs(g, what), as.coatIs(g, what));
      }
      due(x.like(g, 0), as.like(g, 0));
      due(x.done(g, 0), as.done(g, 0));
    }
    due(x.check(), as.check());
    due(x.text(0), as.text(0));
    due(x.law(0, 3, 4, 5), as.law(0, 3, 4, 5));
    due(x.untell(1), as.untell(1));
  }

  @Says("Promise 33: in place of one ahead")
  static void promise33InPlaceOfOneAhead() {
    WrongCoats x = house(7, 7);
    x.image();
    x.night();
    x.image();
    x.night();
    due(x.restore(), 1);
    due(x.restore(), 1);
  }

  @Says("Promise 33: is kept as an IMAGE")
  static void promise33OfAnEmptyObject() {
    WrongCoats x = new WrongCoats();
    due(x.image(), 1);
    x.guest(1, 1, 1);
    x.coat(1, 0);
    x.wears(0, 0);
    text(x, 0, "5");
    x.seed(9);
    x.tell(1);
    feed(x, "g");
    x.night();
    due(x.restore(), 0);
    for (int what = 0; what <= 6; what++) {
      due(x.count(what), 0);
    }
    due(x.count(7), 1);
    due(x.untell(0), 0);
    due(x.guestIs(0, 3), BEYOND);
    due(x.guest(2, 2, 2), 0);
    due(x.guestIs(0, 3), -1);
    due(x.coat(2, -1), 0);
    due(x.coatIs(0, 3), -1);
  }

  // ---- promise 34: restore

  @Says("Promise 34: NONE: there is none.")
  static void promise34NoneWithoutAnImage() {
    refused(NONE, WrongCoats::new, WrongCoats::restore);
    refused(NONE, () -> {
      WrongCoats x = house(7, 7);
      sheet(x, 0, 8, 1, 2);
      text(x, 0, "g+1");
      x.tell(1);
      return x;
    }, WrongCoats::restore);
    due(taken(Edges::full, WrongCoats::restore), 2);
  }

  @Says("Promise 34: All is as the IMAGE has it, which stays: NIGHT.")
  static void promise34TheImageStays() {
    WrongCoats x = crowd();
    x.image();
    for (int i = 0; i < 3; i++) {
      change(x);
      due(x.restore(), 3);
    }
    same(x, crowd());
  }

  @Says({"Promise 34: which stays: NIGHT.", "Terms: NIGHT (0 .. 9999; 0 at first)"})
  static void promise34TheLastNight() {
    WrongCoats x = house(1, 1);
    untilNight(x, 9999);
    x.image();
    due(x.restore(), 9999);
    due(x.night(), STATE);
    due(late(9999).restore(), 0);
  }

  @Says("Promise 34: All is as the IMAGE has it")
  static void promise34FullOfGuestsAndCoatsAndTape() {
    WrongCoats x = house(6, 6);
    x.image();
    x.guest(9, 9, 3);
    x.coat(69, 6);
    due(x.guest(0, 0, 0), FULL);
    due(x.restore(), 0);
    due(x.guest(0, 0, 0), 6);
    due(x.coat(0, 6), 6);
    feed(x, "g".repeat(60));
    for (int i = 0; i < 24; i++) {
      x.tell(i);
    }
    x.image();
    x.text(0);
    x.check();
    x.restore();
    due(x.feed(0, 1), FULL);
    due(x.tell(0), FULL);
    due(x.guest(0, 0, 0), FULL);
    due(x.coat(0, 0), FULL);
  }

  // ---- promise 35: tell

  @Says("Promise 35: FULL: 24 wait.")
  static void promise35FullWhen24Wait() {
    due(taken(() -> waiting(23), x -> x.tell(5)), 24);
    refused(FULL, () -> waiting(24), x -> x.tell(5));
    refused(FULL, () -> waiting(24), x -> x.tell(LEAST_INT));
    due(taken(() -> waiting(22), x -> x.tell(5)), 23);
  }

  @Says("Promise 35: One more number waits: how many.")
  static void promise35From1To24AndAgain() {
    WrongCoats x = new WrongCoats();
    int[] any = {0, -1, LEAST_INT, MOST_INT, BEYOND, FULL};
    for (int round = 0; round < 2; round++) {
      for (int i = 1; i <= 24; i++) {
        due(x.tell(any[i % 6]), i);
      }
      due(x.tell(0), FULL);
      due(x.count(5), 24);
      due(x.check(), 1);
    }
  }

  // ---- promise 36: check

  @Says("Promise 36: The numbers that wait (none do then)")
  static void promise36OfNoNumbers() {
    check(new WrongCoats(), 0);
    check(owned(1, 2), 0);
  }

  @Says("Promise 36: are OWNERS of COATS 0, 1, .. (-1: nobody): 0")
  static void promise36AllAreSo() {
    check(owned(0), 0, 0);
    check(owned(-1), 0, -1);
    check(owned(6, 5, 4, 3, 2, 1, 0), 0, 6, 5, 4, 3, 2, 1, 0);
    check(owned(6, 5, 4), 0, 6, 5);
  }

  @Says("Promise 36: else 1 and the place (from 0) of the first that isn't so")
  static void promise36TheFirstThatIsNotSo() {
    check(owned(0), 1, 1);
    check(owned(0), 1, -1);
    check(owned(-1), 1, 0);
    check(owned(-1), 1, -2);
    check(owned(0, 1), 1, 1, 1);
    check(owned(0, 1), 2, 0, 0);
    check(owned(0, 1), 1, 1, 0);
    check(owned(0, 1, 2, 3, 4, 5, 6), 7, 0, 1, 2, 3, 4, 5, 5);
    check(owned(0, 1, 2, 3, 4, 5, 6), 7, 0, 1, 2, 3, 4, 5, 7);
    check(owned(0, 1), 2, 0, MOST_INT);
    check(owned(0, 1), 2, 0, LEAST_INT);
  }

  @Says("Promise 36: (or for which there is no COAT)")
  static void promise36TheFirstForWhichThereIsNoCoat() {
    check(owned(), 1, -1);
    check(owned(), 1, 0);
    check(owned(3, 4), 3, 3, 4, -1);
    check(owned(3, 4), 3, 3, 4, 0, 0);
    check(owned(0, 0, 0, 0, 0, 0, 0), 8, new int[8]);
    check(owned(0, 0, 0, 0, 0, 0, 0), 8, new int[24]);
    check(owned(0, 0, 0, 0, 0, 0, 0), 0, new int[7]);
  }

  // ---- promise 37: count

  @Says("Promise 37: BEYOND.")
  static void promise37BeyondOfWhat() {
    ends(Edges::full, 0, 7, (x, what) -> x.count(what));
    ends(WrongCoats::new, 0, 7, (x, what) -> x.count(what));
  }

  @Says({
    "Promise 37: 0 GUESTS, 1 COATS, 2 NIGHT, 3 GLAD (any number), 4 bytes of THE TAPE,"
        + " 5 numbers that wait, 6 BODIES in THE TRACE, 7 z (any number)"
  })
  static void promise37AtTheirMost() {
    WrongCoats x = house(7, 7);
    text(x, 1, "0-99");
    for (int i = 0; i < 5; i++) {
      x.nights(30);
    }
    feed(x, "g".repeat(60));
    for (int i = 0; i < 24; i++) {
      x.tell(i);
    }
    x.become(0, 41);
    x.voice(0, 2, 1);
    x.seed(FULL);
    int[] most = {7, 7, 150, -99999, 60, 24, 6, FULL};
    for (int what = 0; what <= 7; what++) {
      due(x.count(what), most[what]);
    }
    due(x.told(4), 0);
  }

  // ---- promise 38: told

  @Says("Promise 38: BEYOND: another k (counted, too).")
  static void promise38BeyondOfKIsCountedToo() {
    ends(Edges::full, 1, 6, (x, k) -> x.told(k));
    WrongCoats x = new WrongCoats();
    due(x.told(0), BEYOND);
    due(x.told(1), 1);
    due(x.told(7), BEYOND);
    due(x.told(1), 2);
    due(x.told(-1), BEYOND);
    due(x.told(LEAST_INT), BEYOND);
    due(x.told(MOST_INT), BEYOND);
    due(x.told(1), 5);
    for (int k = 2; k <= 6; k++) {
      due(x.told(k), 0);
    }
  }

  @Says({
    "Promise 38: How many acts have answered an ERROR LOW - k (k 1 .. 6)",
    "Terms: ERRORS are answers below -1000000000: LOW is -1000000000; LOW - 1 BEYOND, LOW - 2 NONE,"
        + " LOW - 3 STATE, LOW - 4 FULL, LOW - 5 KIND, LOW - 6 PARTED"
  })
  static void promise38EachErrorByItsNumber() {
    WrongCoats x = house(0, 1);
    due(x.guestIs(0, 0), -1000000001);
    due(x.restore(), -1000000002);
    due(x.sheet(0, 8, -1), -1000000003);
    for (int i = 0; i < 24; i++) {
      x.tell(i);
    }
    due(x.tell(0), -1000000004);
    due(x.as(0, 1), -1000000005);
    x.become(0, 0);
    due(x.voice(0, 3, 1), -1000000006);
    for (int k = 1; k <= 6; k++) {
      due(x.told(k), 1);
    }
    x.voice(0, 3, 1);
    due(x.told(6), 2);
    due(x.told(5), 1);
  }

  @Says("Terms: ERRORS are answers below -1000000000")
  static void termsOtherAnswersAreNoErrors() {
    WrongCoats x = house(1, 1);
    for (int v : new int[] {LOW, BEYOND, NONE, STATE, FULL, KIND, PARTED, PARTED - 1}) {
      x.seed(v);
      due(x.count(7), v);
      due(x.seed(1), v);
      due(x.voice(0, 0, v), v);
    }
    due(x.text(0), -10);
    due(x.wears(0, -1), -1);
    for (int k = 1; k <= 6; k++) {
      due(x.told(k), 0);
    }
  }

  @Says("Terms: one that answers an ERROR changes nothing but what told() tells, or where told.")
  static void termsRefusedActsChangeNothing() {
    refused(BEYOND, Edges::crowd, x -> x.guest(0, 0, 9));
    refused(FULL, Edges::crowd, x -> x.guest(0, 0, 0));
    refused(FULL, Edges::crowd, x -> x.coat(0, 0));
    refused(BEYOND, Edges::crowd, x -> x.become(6, 70));
    refused(STATE, Edges::crowd, x -> x.wears(6, 1));
    refused(STATE, Edges::crowd, x -> x.leaves(0));
    refused(BEYOND, Edges::crowd, x -> x.feed(7, 9));
    refused(BEYOND, Edges::crowd, x -> x.text(2));
    refused(BEYOND, Edges::crowd, x -> x.untell(2));
    refused(BEYOND, Edges::crowd, x -> x.nights(31));
    refused(BEYOND, Edges::crowd, x -> x.loose(31));
    refused(STATE, Edges::crowd, x -> x.order(0));
    refused(BEYOND, Edges::crowd, x -> x.voice(0, 4, 1));
    refused(STATE, Edges::crowd, x -> x.sheet(0, 8, -1));
    refused(BEYOND, Edges::crowd, x -> x.put(0, 3, 1));
    refused(KIND, Edges::crowd, x -> x.move(0, 0, 1, 0, 1));
    refused(NONE, Edges::crowd, x -> x.wearsAll(3));
  }

  public static void main(String[] args) throws Exception {
    run(ImagesEdgesTest.class);
  }
}
