/** The edges of what suits, is made and left, and of nights: promises 16 to 19, part 1 of the Terms. */
public final class NightsEdgesTest extends Edges {
  private static final int NEXT_OF_1 = 1103527590;

  /** 3 GUESTS: WIT, SIZE, SMELL 0 0 0, 9 9 3 and 0 9 3; a COAT of a KIND with m 0, one with m 9. */
  private static WrongCoats threeAndTwo(int kind) {
    WrongCoats x = new WrongCoats();
    x.guest(0, 0, 0);
    x.guest(9, 9, 3);
    x.guest(0, 9, 3);
    x.coat(10 * kind, -1);
    x.coat(10 * kind + 9, -1);
    return x;
  }

  /** What SUITS, also below 0: of each guest for m 0 and for m 9. */
  private static void suits(int kind, int... want) {
    WrongCoats x = threeAndTwo(kind);
    text(x, 0, "g+50");
    for (int i = 0; i < 6; i++) {
      due(x.like(i % 2, i / 2), 50 + want[i]);
    }
    x.untell(0);
    for (int i = 0; i < 6; i++) {
      due(x.like(i % 2, i / 2), Math.max(0, want[i]));
    }
  }

  /** What WIT 0 MAKES with m 9, WIT 1 with m 0, and WIT 9 with m 9, in NIGHTS 0, 1, 2 and 3. */
  private static void makes(int kind, int... want) {
    WrongCoats x = new WrongCoats();
    x.guest(0, 0, 0);
    x.guest(1, 0, 0);
    x.guest(9, 0, 0);
    x.coat(10 * kind + 9, -1);
    x.coat(10 * kind, -1);
    for (int night = 0; night < 4; night++) {
      for (int g = 0; g < 3; g++) {
        due(x.done(g == 1 ? 1 : 0, g), want[3 * night + g]);
      }
      x.night();
    }
  }

  private static int night(WrongCoats x, String doneByOne) {
    text(x, 1, doneByOne);
    x.wears(0, 0);
    return x.night();
  }

  /** GLAD is 99995 (or -99995), NIGHT 145. */
  private static WrongCoats nearlyMostGlad(boolean above) {
    WrongCoats x = house(7, 7);
    text(x, 1, above ? "99" : "0-99");
    for (int i = 0; i < 4; i++) {
      x.nights(30);
    }
    x.nights(24);
    text(x, 1, above ? "29" : "0-29");
    x.nights(1);
    return x;
  }

  /** As many NIGHTS as lead to 9999 are taken, one more is not. */
  private static void lateNights(ActWith act) {
    for (int n : new int[] {1, 2, 29, 30}) {
      taken(() -> late(9999 - n), x -> act.on(x, n));
      WrongCoats x = late(9999 - n);
      act.on(x, n);
      due(x.count(2), 9999);
      refused(STATE, () -> late(10000 - n), y -> act.on(y, n));
    }
    refused(STATE, () -> late(9999), x -> act.on(x, 30));
  }

  // ---- Terms: SUITS

  @Says("Terms: SUITS (a guest): COAT: 20 less twice the difference of SIZE and m.")
  static void termsSuitsOfCoatAtTheEndsOfSizeAndM() {
    suits(0, 20, 2, 2, 20, 2, 20);
  }

  @Says("Terms: ULSTER: as COAT, less 5.")
  static void termsSuitsOfUlsterBelow0() {
    suits(1, 15, -3, -3, 15, -3, 15);
    WrongCoats x = new WrongCoats();
    x.guest(0, 0, 0);
    x.coat(17, -1);
    due(x.like(0, 0), 1);
    x.become(0, 18);
    due(x.like(0, 0), 0);
    text(x, 0, "g+1");
    due(x.like(0, 0), 0);
    text(x, 0, "g+2");
    due(x.like(0, 0), 1);
  }

  @Says("Terms: CAPE: as COAT, and WIT.")
  static void termsSuitsOfCape() {
    suits(2, 20, 2, 11, 29, 2, 20);
  }

  @Says("Terms: HUNTING: 30, if SMELL is the rest of m by 4; else 0.")
  static void termsSuitsOfHuntingForEachSmellAndM() {
    suits(3, 30, 0, 0, 0, 0, 0);
    int[] rests = {0, 1, 2, 3, 0, 1, 2, 3, 0, 1};
    WrongCoats x = new WrongCoats();
    for (int smell = 0; smell <= 3; smell++) {
      x.guest(5, 5, smell);
    }
    x.coat(30, -1);
    for (int m = 0; m <= 9; m++) {
      x.become(0, 30 + m);
      for (int smell = 0; smell <= 3; smell++) {
        due(x.like(0, smell), smell == rests[m] ? 30 : 0);
      }
    }
  }

  @Says("Terms: DRESS: as ULSTER, and 20, if the rest of NIGHT by 7 is 5.")
  static void termsSuitsOfDressByNights() {
    suits(4, 15, -3, -3, 15, -3, 15);
    WrongCoats x = threeAndTwo(4);
    for (int night = 0; night <= 20; night++) {
      boolean is5 = night == 5 || night == 12 || night == 19;
      due(x.like(0, 0), is5 ? 35 : 15);
      due(x.like(1, 0), is5 ? 17 : 0);
      x.night();
    }
  }

  @Says("Terms: CLOAK: as CAPE, less SMELL.")
  static void termsSuitsOfCloakBelow0() {
    suits(5, 20, 2, 8, 26, -1, 17);
  }

  @Says("Terms: LETTER: half of COAT's (cut).")
  static void termsSuitsOfLetter() {
    suits(6, 10, 1, 1, 10, 1, 10);
  }

  @Says("Terms: n the rest of NIGHT by 7")
  static void termsRestOfNightBy7() {
    WrongCoats x = house(1, 1);
    text(x, 0, "n");
    for (int night = 0; night <= 14; night++) {
      due(x.like(0, 0), night == 14 ? 0 : night >= 7 ? night - 7 : night);
      x.night();
    }
  }

  // ---- Terms: MAKES

  @Says("Terms: MAKES (of a guest in it): COAT, HUNTING: WIT, and the rest of NIGHT by 3.")
  static void termsMakesOfCoatAndHunting() {
    makes(0, 0, 1, 9, 1, 2, 10, 2, 3, 11, 0, 1, 9);
    makes(3, 0, 1, 9, 1, 2, 10, 2, 3, 11, 0, 1, 9);
  }

  @Says("Terms: ULSTER: twice COAT's.")
  static void termsMakesOfUlster() {
    makes(1, 0, 2, 18, 2, 4, 20, 4, 6, 22, 0, 2, 18);
  }

  @Says({"Terms: CAPE: half of COAT's (cut).", "Terms: Quotients are cut toward 0."})
  static void termsMakesOfCapeCut() {
    makes(2, 0, 0, 4, 0, 1, 5, 1, 1, 5, 0, 0, 4);
  }

  @Says("Terms: DRESS: as ULSTER, less m.")
  static void termsMakesOfDressBelow0() {
    makes(4, -9, 2, 9, -7, 4, 11, -5, 6, 13, -9, 2, 9);
  }

  @Says("Terms: CLOAK: as CAPE, and 3.")
  static void termsMakesOfCloak() {
    makes(5, 3, 3, 7, 3, 4, 8, 4, 4, 8, 3, 3, 7);
  }

  @Says("Terms: LETTER: 30 less COAT's.")
  static void termsMakesOfLetter() {
    makes(6, 30, 29, 21, 29, 28, 20, 28, 27, 19, 30, 29, 21);
  }

  @Says("Terms: o 1, if it is his own, else 0")
  static void termsOwnIs1AndNobodysIs0() {
    WrongCoats x = house(7, 0);
    x.coat(4, 0);
    x.coat(4, 6);
    x.coat(4, -1);
    text(x, 1, "o");
    for (int g = 0; g < 7; g++) {
      due(x.done(0, g), g == 0 ? 1 : 0);
      due(x.done(1, g), g == 6 ? 1 : 0);
      due(x.done(2, g), 0);
    }
  }

  // ---- Terms: ONE LEAVES

  @Says("Terms: that is most LIKE; of several the least")
  static void termsLeavesOfSeveralTheLeast() {
    for (String like : new String[] {"0", "7", "99", "g+200", "0-g"}) {
      WrongCoats x = house(7, 7);
      x.become(3, 29);
      text(x, 0, like);
      for (int g = 0; g < 7; g++) {
        due(x.leaves(g), g);
      }
    }
  }

  @Says("Terms: he gets the COAT of those that HANG that is most LIKE")
  static void termsLeavesByLikeAmongThoseThatHang() {
    WrongCoats x = house(3, 3);
    x.become(1, 3);
    x.become(0, 9);
    due(x.leaves(0), 2);
    due(x.leaves(1), 1);
    due(x.leaves(2), 0);
    x.wears(0, -1);
    x.wears(2, -1);
    x.become(2, 8);
    due(x.leaves(2), 2);
    due(x.leaves(0), 0);
  }

  @Says("Terms: he gets the COAT of those that HANG that is most LIKE")
  static void termsLeavesByHisOwnLike() {
    WrongCoats x = new WrongCoats();
    for (int g = 0; g < 7; g++) {
      x.guest(0, 9 - g, 0);
      x.coat(3 + g, -1);
    }
    for (int g : new int[] {3, 0, 6, 1, 5, 2, 4}) {
      due(x.leaves(g), 6 - g);
    }
  }

  @Says("Terms: if none HANGS, none")
  static void termsNoneIsLeftForTheLast() {
    WrongCoats x = house(3, 2);
    text(x, 1, "w+10");
    due(x.nights(1), 10 + 11);
    WrongCoats none = house(3, 0);
    text(none, 1, "99");
    due(none.nights(30), 0);
    due(none.loose(30), 0);
    due(none.count(3), 0);
  }

  // ---- Terms: a NIGHT

  @Says({"Terms: (held within -99999 .. 99999)", "Terms: GLAD (-99999 .. 99999; 0 at first)"})
  static void termsGladIsHeldAbove() {
    due(nearlyMostGlad(true).count(3), 99995);
    WrongCoats x = nearlyMostGlad(true);
    due(night(x, "4"), 4);
    due(x.count(3), 99999);
    due(night(x, "1"), 1);
    due(x.count(3), 99999);
    due(night(x, "0-1"), -1);
    due(x.count(3), 99998);
    due(night(x, "2"), 2);
    due(x.count(3), 99999);
    WrongCoats over = nearlyMostGlad(true);
    due(night(over, "5"), 5);
    due(over.count(3), 99999);
    text(x, 1, "99");
    due(x.nights(30), 30 * 693);
    due(x.count(3), 99999);
    due(x.loose(30), 30 * 693);
    due(x.count(3), 99999);
  }

  @Says({"Terms: (held within -99999 .. 99999)", "Terms: GLAD (-99999 .. 99999; 0 at first)"})
  static void termsGladIsHeldBelow() {
    due(nearlyMostGlad(false).count(3), -99995);
    WrongCoats over = nearlyMostGlad(false);
    due(night(over, "0-5"), -5);
    due(over.count(3), -99999);
    WrongCoats x = nearlyMostGlad(false);
    due(night(x, "0-4"), -4);
    due(x.count(3), -99999);
    due(night(x, "0-1"), -1);
    due(x.count(3), -99999);
    due(night(x, "1"), 1);
    due(x.count(3), -99998);
    due(night(x, "0-2"), -2);
    due(x.count(3), -99999);
    text(x, 1, "0-99");
    due(x.nights(30), -30 * 693);
    due(x.count(3), -99999);
    due(x.loose(30), -30 * 693);
    due(x.count(3), -99999);
    due(x.told(1), 0);
  }

  @Says("Terms: A NIGHT: GLAD is more by what is DONE by all who wear one, together (held within")
  static void termsGladIsHeldInEachNightOfMany() {
    for (boolean drawn : new boolean[] {false, true}) {
      WrongCoats above = nearlyMostGlad(true);
      night(above, "4");
      above.night();
      due(above.count(2) % 3, 0);
      text(above, 1, "1-(d-w)");
      due(drawn ? above.loose(3) : above.nights(3), 0);
      due(above.count(3), 99992);
      WrongCoats below = nearlyMostGlad(false);
      night(below, "0-4");
      below.night();
      text(below, 1, "(d-w)-1");
      due(drawn ? below.loose(3) : below.nights(3), 0);
      due(below.count(3), -99992);
    }
  }

  @Says("Terms: then nobody wears any; NIGHT is 1 more.")
  static void termsNobodyWearsAnyAfterANight() {
    WrongCoats x = house(7, 7);
    for (int g = 0; g < 7; g++) {
      x.wears(g, 6 - g);
    }
    due(x.night(), 21);
    due(x.count(2), 1);
    for (int g = 0; g < 7; g++) {
      due(x.guestIs(g, 3), -1);
    }
    due(x.left(0), 127);
    x.nights(1);
    due(x.left(0), 127);
    x.loose(1);
    due(x.left(0), 127);
    due(x.count(2), 3);
  }

  // ---- promise 16: night

  @Says({"Promise 16: STATE: NIGHT is 9999.", "Terms: NIGHT (0 .. 9999; 0 at first)"})
  static void promise16StateWhenNightIs9999() {
    due(taken(() -> late(9998), WrongCoats::night), 14);
    WrongCoats x = late(9998);
    x.night();
    due(x.count(2), 9999);
    refused(STATE, () -> late(9999), WrongCoats::night);
    due(x.restore(), 0);
    due(x.night(), 0);
  }

  @Says("Promise 16: what was DONE by all, together (any number).")
  static void promise16NobodyAndAllAtTheirMost() {
    due(new WrongCoats().night(), 0);
    due(house(7, 7).night(), 0);
    for (String done : new String[] {"99", "0-99"}) {
      WrongCoats x = house(7, 7);
      text(x, 1, done);
      for (int g = 0; g < 7; g++) {
        x.wears(g, g);
      }
      due(x.night(), done.equals("99") ? 693 : -693);
      due(x.count(3), done.equals("99") ? 693 : -693);
    }
  }

  // ---- promise 17: nights

  @Says({"Promise 17: n (1 .. 30)", "Promise 17: BEYOND."})
  static void promise17BeyondOfN() {
    ends(Edges::full, 1, 30, (x, n) -> x.nights(n));
    WrongCoats x = house(2, 2);
    x.nights(1);
    due(x.count(2), 1);
    x.nights(30);
    due(x.count(2), 31);
  }

  @Says("Promise 17: STATE: NIGHT would be above 9999.")
  static void promise17StateAbove9999() {
    lateNights((x, n) -> x.nights(n));
  }

  @Says("Promise 17: BEYOND. STATE")
  static void promise17BeyondAheadOfState() {
    refused(BEYOND, () -> late(9999), x -> x.nights(0));
    refused(BEYOND, () -> late(9999), x -> x.nights(31));
    refused(BEYOND, () -> late(9999), x -> x.nights(MOST_INT));
  }

  @Says("Promise 17: all who wear none LEAVE, by numbers")
  static void promise17LeaveByNumbers() {
    WrongCoats x = house(7, 1);
    text(x, 1, "w+1");
    due(x.nights(1), 1);
    x.wears(6, 0);
    due(x.nights(1), 7);
    x.wears(6, 0);
    due(x.nights(2), 7 + 1);
    due(new WrongCoats().nights(30), 0);
  }

  @Says({
    "Promise 17: what was DONE in all these, together (any number)",
    "Promise 18: what was DONE in all these, together (any number)"
  })
  static void promise17And18TogetherAtTheirMost() {
    for (String done : new String[] {"99", "0-99"}) {
      WrongCoats x = house(7, 7);
      text(x, 1, done);
      int most = done.equals("99") ? 20790 : -20790;
      due(x.nights(30), most);
      due(x.count(3), most);
      due(x.loose(30), most);
      due(x.count(3), 2 * most);
    }
    due(house(7, 0).nights(30), 0);
    due(house(7, 0).loose(30), 0);
  }

  // ---- promise 18: loose

  @Says({"Promise 18: n (1 .. 30) NIGHTS BY DRAWS", "Promise 18: BEYOND."})
  static void promise18BeyondOfN() {
    ends(Edges::full, 1, 30, (x, n) -> x.loose(n));
    WrongCoats x = house(2, 2);
    x.loose(1);
    due(x.count(2), 1);
    x.loose(30);
    due(x.count(2), 31);
  }

  @Says("Promise 18: STATE: NIGHT would be above 9999.")
  static void promise18StateAbove9999() {
    lateNights((x, n) -> x.loose(n));
  }

  @Says("Promise 18: BEYOND. STATE")
  static void promise18BeyondAheadOfState() {
    refused(BEYOND, () -> late(9999), x -> x.loose(0));
    refused(BEYOND, () -> late(9999), x -> x.loose(31));
    refused(BEYOND, () -> late(9999), x -> x.loose(MOST_INT));
  }

  @Says("Terms: BY DRAWS a NIGHT: if there are GUESTS, a draw")
  static void termsNoDrawWithoutGuests() {
    WrongCoats x = new WrongCoats();
    x.coat(4, -1);
    due(x.loose(30), 0);
    due(x.count(7), 1);
    due(x.count(2), 30);
    x.guest(1, 1, 1);
    due(x.loose(1), 1);
    due(x.count(7), NEXT_OF_1);
  }

  @Says("Terms: BY DRAWS a NIGHT: if there are GUESTS, a draw")
  static void termsADrawAlsoWhenAllWearOne() {
    WrongCoats x = house(1, 1);
    x.wears(0, 0);
    x.loose(1);
    due(x.count(7), NEXT_OF_1);
    WrongCoats noCoats = house(7, 0);
    noCoats.loose(1);
    due(noCoats.count(7), NEXT_OF_1);
  }

  @Says("Terms: each makes it z * 1103515245 + 12345 (an int), and gives z >>> 8.")
  static void termsDrawsWrapAndAreNeverBelow0() {
    int[] seeds = {1, 77, 5, 0, -1, MOST_INT, LEAST_INT};
    int[] nexts = {NEXT_OF_1, -928659710, 1222621274, 12345, -1103502900, 1043980748, -2147471303};
    int[] of7 = {5, 6, 2, 6, 0, 3, 3};
    for (int i = 0; i < seeds.length; i++) {
      WrongCoats x = house(7, 1);
      text(x, 1, "w");
      x.seed(seeds[i]);
      due(x.loose(1), of7[i]);
      due(x.count(7), nexts[i]);
    }
    WrongCoats x = house(1, 1);
    x.loose(5);
    due(x.count(7), -112468174);
  }

  @Says("Terms: from the one that is its rest by how many there are on, round")
  static void termsFromTheOneDrawnOnRound() {
    int[] seeds = {77, -1, 5};
    int[] sums = {0 + 27, 3 + 23, 7 + 30};
    for (int i = 0; i < 3; i++) {
      WrongCoats x = new WrongCoats();
      x.guest(0, 4, 0);
      x.guest(3, 4, 0);
      x.guest(7, 4, 0);
      x.coat(4, -1);
      x.coat(64, -1);
      text(x, 0, "7");
      x.seed(seeds[i]);
      due(x.loose(1), sums[i]);
    }
    int[] restsOf77 = {0, 1, 0, 3, 4, 3, 6};
    for (int guests = 1; guests <= 7; guests++) {
      WrongCoats x = house(guests, 1);
      text(x, 1, "w");
      x.seed(77);
      due(x.loose(1), restsOf77[guests - 1]);
    }
  }

  // ---- promise 19: seed

  @Says("Promise 19: z becomes v: what it was (any number).")
  static void promise19AnyNumber() {
    WrongCoats x = new WrongCoats();
    int[] all = {0, LEAST_INT, MOST_INT, -1, LOW, BEYOND, NONE, STATE, FULL, KIND, PARTED, 1};
    int was = 1;
    for (int v : all) {
      due(x.seed(v), was);
      due(x.count(7), v);
      was = v;
    }
    for (int k = 1; k <= 6; k++) {
      due(x.told(k), 0);
    }
  }

  public static void main(String[] args) throws Exception {
    run(NightsEdgesTest.class);
  }
}
