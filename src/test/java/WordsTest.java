import java.lang.reflect.Method;
import java.lang.reflect.Modifier;

/** The sentences of the document that name no edge: ordinary calls, as they say it. */
public final class WordsTest extends Edges {

  /** GUESTS of WIT 1, 2, 3 and SIZE 4; a COAT and a LETTER with m 4, both as LIKE to the boy. */
  private static WrongCoats threeAndLetter() {
    WrongCoats x = new WrongCoats();
    for (int wit = 1; wit <= 3; wit++) {
      x.guest(wit, 4, 0);
    }
    x.coat(4, -1);
    x.coat(64, -1);
    text(x, 0, "7");
    return x;
  }

  /** WIT 1 and 9, SIZE 4 and 5; a COAT with m 4, that is most LIKE to both, a LETTER with m 9. */
  private static WrongCoats twoWhoLikeTheSame() {
    WrongCoats x = new WrongCoats();
    x.guest(1, 4, 0);
    x.guest(9, 5, 0);
    x.coat(4, 0);
    x.coat(69, 1);
    return x;
  }

  // ---- What it is

  @Says("What it is: An object is used for at most 512 calls after it has been made")
  static void whatItIsTheLastOf512CallsIsAnswered() {
    WrongCoats nights = house(7, 7);
    WrongCoats images = house(7, 7);
    WrongCoats refusals = house(7, 7);
    for (int call = 15; call < 512; call++) {
      due(nights.nights(1), new int[] {21, 28, 35}[(call - 15) % 3]);
      due(images.image(), call - 14);
      due(refusals.guest(0, 0, 0), FULL);
    }
    due(nights.count(2), 497);
    due(images.image(), 498);
    due(refusals.told(4), 497);
  }

  // ---- Terms

  @Says("Terms: LOW - 6 PARTED (in longs, too)")
  static void termsEveryCallAnswersAnInt() {
    int calls = 0;
    for (Method m : WrongCoats.class.getDeclaredMethods()) {
      if (Modifier.isPublic(m.getModifiers())) {
        calls++;
        due(m.getReturnType() == int.class ? 1 : 0, 1);
      }
    }
    due(calls, 37);
  }

  @Says({
    "Terms: COATS 0, 1, .. (at most 7), of KINDS: 0 COAT, 1 ULSTER under COAT",
    "Promise 5: Of a COAT: 0 KIND, 1 m, 2 OWNER, 3 who"
  })
  static void promise5CoatsOfEachKind() {
    WrongCoats x = house(3, 0);
    for (int kind = 0; kind <= 6; kind++) {
      x.coat(10 * kind + kind + 2, kind % 3);
    }
    x.wears(2, 4);
    for (int kind = 0; kind <= 6; kind++) {
      due(x.coatIs(kind, 0), kind);
      due(x.coatIs(kind, 1), kind + 2);
      due(x.coatIs(kind, 2), kind % 3);
      due(x.coatIs(kind, 3), kind == 4 ? 2 : -1);
    }
  }

  @Says({
    "Terms: LIKE (to the boy, of a COAT and a guest) is what the TEXT of that USE gives",
    "Promise 8: LIKE, of a COAT and a guest, now."
  })
  static void promise8LikeIsWhatTheTextGives() {
    WrongCoats x = new WrongCoats();
    x.guest(5, 4, 3);
    x.guest(5, 2, 1);
    x.coat(12, 0);
    due(x.like(0, 0), 11);
    due(x.like(0, 1), 15);
    text(x, 0, "g*5+s*7-n");
    text(x, 1, "0-50");
    due(x.like(0, 0), 76);
    due(x.like(0, 1), 82);
    x.nights(6);
    due(x.like(0, 0), 70);
    x.night();
    due(x.like(0, 0), 76);
  }

  @Says({
    "Terms: DONE (by a guest in a COAT) what the TEXT of that USE gives.",
    "Promise 9: DONE, by a guest in a COAT, now"
  })
  static void promise9DoneIsWhatTheTextGives() {
    WrongCoats x = new WrongCoats();
    x.guest(5, 4, 3);
    x.guest(1, 2, 1);
    x.coat(12, 0);
    due(x.done(0, 0), 10);
    due(x.done(0, 1), 2);
    text(x, 0, "50");
    text(x, 1, "d*3+w*2+o*40");
    due(x.done(0, 0), 80);
    due(x.done(0, 1), 8);
    x.nights(2);
    due(x.done(0, 0), 92);
    due(x.done(0, 1), 20);
  }

  @Says({
    "Terms: ONE LEAVES who wears none: he gets the COAT",
    "Promise 11: ONE LEAVES: which COAT he gets."
  })
  static void promise11OneLeavesAndWearsWhatHeGets() {
    WrongCoats x = twoWhoLikeTheSame();
    due(x.leaves(1), 0);
    due(x.guestIs(1, 3), 0);
    due(x.coatIs(0, 3), 1);
    due(x.leaves(0), 1);
    due(x.guestIs(0, 3), 1);
    due(x.guestIs(1, 3), 0);
    due(x.leaves(0), STATE);
  }

  @Says("Terms: on, round, all who wear none LEAVE; then a NIGHT. DRAWS: z is told (1 at first)")
  static void termsByDrawsOnlyWhoWearsNoneLeaves() {
    int[] seeds = {77, -1, 5};
    int[] sums = {1 + 28, 3 + 28, 3 + 28};
    for (int i = 0; i < 3; i++) {
      WrongCoats x = threeAndLetter();
      x.wears(1, 1);
      x.seed(seeds[i]);
      due(x.loose(1), sums[i]);
      due(x.count(2), 1);
      due(x.left(1), 2);
    }
  }

  @Says("Terms: 3. (All this is only thought; what GUESTS wear counts for nothing in BEST")
  static void termsAllThisIsOnlyThought() {
    for (int asked = -1; asked <= 3; asked++) {
      int what = asked;
      changesNothing(Edges::full, x -> x.best(what));
      changesNothing(Edges::full, x -> x.order(what));
    }
    for (int asked = 0; asked <= 1; asked++) {
      int what = asked;
      changesNothing(Edges::full, x -> x.left(what));
      changesNothing(Edges::full, x -> x.odds(2, what));
      changesNothing(Edges::full, x -> x.fits(2, 0));
    }
    changesNothing(Edges::full, WrongCoats::right);
  }

  @Says({
    "Terms: the one by which what is DONE by all is most together; of several the first",
    "Promise 21: ORDER: what -1 what it comes to (any number), 0 .. 6 who LEAVES as the first"
  })
  static void promise21OrderByWhichMostIsDone() {
    WrongCoats x = twoWhoLikeTheSame();
    due(x.order(-1), 9 + 29);
    due(x.order(0), 1);
    due(x.order(1), 0);
    x.guest(5, 9, 0);
    due(x.order(-1), 9 + 29);
    due(x.order(0), 1);
    due(x.order(1), 0);
    due(x.order(2), 2);
  }

  @Says({
    "Terms: so that what is DONE by all is most together",
    "Terms: the one by which what is DONE by all is most together"
  })
  static void promise20BestIsFreeOfWhatIsLike() {
    WrongCoats x = new WrongCoats();
    x.guest(1, 4, 0);
    x.coat(4, -1);
    x.coat(64, -1);
    due(x.leaves(0), 0);
    due(x.order(-1), 1);
    due(x.best(-1), 29);
    due(x.best(0), 1);
  }

  @Says({
    "Terms: LEFT: COATS that HANG. ODDS of one: that he gets his own, if all LEAVE",
    "Promise 24: ODDS: part 0 above, 1 below the line."
  })
  static void promise24OddsThatHeGetsHisOwn() {
    WrongCoats x = twoWhoLikeTheSame();
    due(x.odds(0, 0), 1);
    due(x.odds(0, 1), 2);
    due(x.odds(1, 0), 1);
    due(x.odds(1, 1), 2);
    x.guest(5, 9, 0);
    due(x.odds(0, 0), 1);
    due(x.odds(0, 1), 3);
    due(x.odds(2, 0), 0);
    due(x.odds(2, 1), 1);
    due(x.left(0), 3);
  }

  @Says("Terms: 4. VOICES of a COAT, with a number x (ints that wrap); k is the number, m as told")
  static void promise26KIsTheNumberAndMAsTold() {
    WrongCoats x = house(0, 7);
    x.become(5, 9);
    due(x.voice(2, 0, 100), 102);
    due(x.voice(5, 0, 100), 105);
    due(x.voice(5, 2, 100), 201);
    due(x.voice(2, 2, 100), 200);
    due(x.voice(5, 3, 100), 25);
    due(x.voice(2, 3, 100), 50);
  }

  @Says("Terms: super.hangs(..) that from the KIND above the BODY's on.")
  static void promise26SuperIsFromTheBodysKindOn() {
    WrongCoats x = house(0, 3);
    x.coat(40, -1);
    due(x.voice(3, 0, 10), (10 + 3 - 4) * 3);
    due(x.voice(3, 2, 10), ((10 + 3 - 4) * 3 * 2 - 0) ^ 3);
    x.become(3, 51);
    due(x.voice(3, 1, 10), -(11 + 3) * 2);
    x.become(3, 61);
    due(x.voice(3, 1, 10), 9 * 2 + 1);
  }

  // ---- promises

  @Says("Promise 3: Of a guest: 0 WIT, 1 SIZE, 2 SMELL, 3 HAS, 4 what would be DONE now")
  static void promise3AllThatAGuestIs() {
    WrongCoats x = new WrongCoats();
    x.guest(5, 4, 1);
    x.guest(8, 7, 2);
    x.coat(0, -1);
    x.coat(14, -1);
    x.wears(1, 1);
    x.nights(1);
    x.wears(1, 1);
    int[][] are = {{5, 4, 1, -1, 0}, {8, 7, 2, 1, 18}};
    for (int g = 0; g < 2; g++) {
      for (int what = 0; what <= 4; what++) {
        due(x.guestIs(g, what), are[g][what]);
      }
    }
  }

  @Says("Promise 4: One more COAT (km: 10 times the KIND, and m; owner -1: nobody): the number.")
  static void promise4OneMoreCoat() {
    WrongCoats x = house(2, 0);
    due(x.coat(37, 1), 0);
    due(x.coat(50, -1), 1);
    due(x.coatIs(0, 0), 3);
    due(x.coatIs(0, 1), 7);
    due(x.coatIs(0, 2), 1);
    due(x.coatIs(1, 0), 5);
    due(x.coatIs(1, 1), 0);
    due(x.coatIs(1, 2), -1);
  }

  @Says("Promise 7: A COAT as one of a KIND: m.")
  static void promise7MOfEachCoat() {
    WrongCoats x = new WrongCoats();
    for (int kind = 0; kind <= 6; kind++) {
      x.coat(10 * kind + 9 - kind, -1);
      due(x.as(kind, kind), 9 - kind);
      due(x.as(kind, 0), 9 - kind);
    }
    due(x.as(4, 1), 5);
    due(x.as(5, 2), 4);
  }

  @Says("Promise 14: There is no TEXT of a USE any more: 1 if there was")
  static void promise14NoTextAnyMore() {
    WrongCoats x = threeAndLetter();
    text(x, 1, "5");
    due(x.like(1, 0), 7);
    due(x.done(1, 0), 5);
    due(x.untell(0), 1);
    due(x.like(1, 0), 10);
    due(x.done(1, 0), 5);
    due(x.untell(1), 1);
    due(x.done(1, 0), 29);
  }

  @Says("Promise 16: A NIGHT: what was DONE by all, together (any number).")
  static void promise16ANight() {
    WrongCoats x = threeAndLetter();
    x.wears(2, 0);
    x.wears(0, 1);
    due(x.night(), 3 + 29);
    due(x.count(2), 1);
    due(x.count(3), 32);
    due(x.guestIs(2, 3), -1);
    x.wears(1, 0);
    due(x.night(), 3);
    due(x.count(3), 35);
  }

  @Says(
      "Promise 17: n (1 .. 30) times all who wear none LEAVE, by numbers, then a NIGHT: what was DONE")
  static void promise17NTimesAllLeaveThenANight() {
    WrongCoats x = threeAndLetter();
    x.wears(2, 0);
    due(x.nights(3), (3 + 29) + (2 + 27) + (3 + 26));
    due(x.count(2), 3);
    due(x.count(3), 90);
    due(x.left(1), 2);
  }

  @Says("Promise 27: THE TRACE's i-th.")
  static void promise27EachOfTheTrace() {
    WrongCoats x = house(0, 1);
    x.become(0, 57);
    x.voice(0, 2, 1);
    int[] bodies = {12, 60, 30, 11, 10};
    for (int i = 0; i < 5; i++) {
      due(x.body(i), bodies[i]);
    }
  }

  @Says("Promise 28: of so many bits (8, 16, 32; 0: it is missing, n doesn't matter): 1. BEYOND.")
  static void promise28Answers1() {
    WrongCoats x = new WrongCoats();
    int[] bits = {8, 16, 32, 0};
    for (int s = 0; s <= 3; s++) {
      due(x.sheet(s, bits[s], 2 + s), 1);
      due(x.put(s, 1 + s, 9), s == 3 ? NONE : 1);
      due(x.put(s, 2 + s, 9), s == 3 ? NONE : BEYOND);
    }
  }

  public static void main(String[] args) throws Exception {
    run(WordsTest.class);
  }
}
