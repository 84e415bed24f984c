/** One part for each promise: ordinary inputs, the edges that the document names, wrong inputs. */
public final class PromisesTest {
  private static final int BEYOND = -1000000001;
  private static final int NONE = -1000000002;
  private static final int STATE = -1000000003;
  private static final int FULL = -1000000004;
  private static final int KIND = -1000000005;
  private static final int PARTED = -1000000006;

  private static int promise = 0;
  private static int wrong = 0;
  private static int row = 0;

  private static void due(long got, long want) {
    row++;
    if (got != want) {
      wrong++;
      System.out.println(
          "promise " + promise + ", row " + row + ": answered " + got + ", due is " + want);
    }
  }

  private static void begin(int number) {
    promise = number;
    row = 0;
  }

  private static void feed(WrongCoats x, String text) {
    for (int i = 0; i < text.length(); i++) {
      x.feed(text.charAt(i), 1);
    }
  }

  private static int text(WrongCoats x, int use, String text) {
    feed(x, text);
    return x.text(use);
  }

  /** Guests of one wit each, all of size 4 and smell 0. */
  private static WrongCoats guests(int... wits) {
    WrongCoats x = new WrongCoats();
    for (int wit : wits) {
      x.guest(wit, 4, 0);
    }
    return x;
  }

  private static void sheet(WrongCoats x, int sheet, int bits, int... numbers) {
    x.sheet(sheet, bits, numbers.length);
    for (int i = 0; i < numbers.length; i++) {
      x.put(sheet, i, numbers[i]);
    }
  }

  private static void untilNight(WrongCoats x, int night) {
    int now = x.count(2);
    while (now < night) {
      int n = Math.min(30, night - now);
      x.nights(n);
      now += n;
    }
  }

  private static void newObject() {
    begin(1);
    WrongCoats x = new WrongCoats();
    for (int what = 0; what <= 6; what++) {
      due(x.count(what), 0);
    }
    due(x.count(7), 1);
    for (int k = 1; k <= 6; k++) {
      due(x.told(k), 0);
    }
    due(x.guestIs(0, 0), BEYOND);
    due(x.coatIs(0, 0), BEYOND);
    due(x.untell(0), 0);
    due(x.untell(1), 0);
    for (int s = 0; s < 4; s++) {
      due(x.judge(s), NONE);
    }
    due(x.restore(), NONE);
    due(x.body(0), NONE);
    due(x.check(), 0);
    x.guest(1, 1, 1);
    due(new WrongCoats().count(0), 0);
  }

  private static void guest() {
    begin(2);
    WrongCoats x = new WrongCoats();
    due(x.guest(-1, 0, 0), BEYOND);
    due(x.guest(10, 0, 0), BEYOND);
    due(x.guest(0, -1, 0), BEYOND);
    due(x.guest(0, 10, 0), BEYOND);
    due(x.guest(0, 0, -1), BEYOND);
    due(x.guest(0, 0, 4), BEYOND);
    due(x.count(0), 0);
    for (int i = 0; i < 7; i++) {
      due(x.guest(i % 2 * 9, 9 - i, i % 4), i);
    }
    due(x.guest(0, 0, 0), FULL);
    due(x.guest(0, 0, 4), BEYOND);
    due(x.count(0), 7);
  }

  private static void guestIs() {
    begin(3);
    WrongCoats x = new WrongCoats();
    x.guest(5, 4, 1);
    x.guest(9, 8, 3);
    x.coat(14, -1);
    due(x.guestIs(0, 0), 5);
    due(x.guestIs(0, 1), 4);
    due(x.guestIs(0, 2), 1);
    due(x.guestIs(0, 3), -1);
    due(x.guestIs(0, 4), 0);
    x.wears(1, 0);
    due(x.guestIs(1, 3), 0);
    due(x.guestIs(1, 4), 18);
    due(x.guestIs(0, 5), BEYOND);
    due(x.guestIs(0, -1), BEYOND);
    due(x.guestIs(2, 0), BEYOND);
    due(x.guestIs(-1, 0), BEYOND);
    text(x, 1, "0-d");
    due(x.guestIs(1, 4), -18);
  }

  private static void coat() {
    begin(4);
    WrongCoats x = guests(1, 2);
    due(x.coat(-1, 0), BEYOND);
    due(x.coat(70, 0), BEYOND);
    due(x.coat(0, 2), BEYOND);
    due(x.coat(0, -2), BEYOND);
    due(x.coat(0, -1), 0);
    due(x.coat(69, 1), 1);
    due(x.coat(35, 0), 2);
    due(x.coatIs(1, 0), 6);
    due(x.coatIs(1, 1), 9);
    for (int i = 3; i < 7; i++) {
      due(x.coat(0, 0), i);
    }
    due(x.coat(0, 0), FULL);
    due(x.coat(0, 2), BEYOND);
    due(x.count(1), 7);
  }

  private static void coatIs() {
    begin(5);
    WrongCoats x = guests(1, 2);
    x.coat(47, 1);
    x.coat(3, -1);
    due(x.coatIs(0, 0), 4);
    due(x.coatIs(0, 1), 7);
    due(x.coatIs(0, 2), 1);
    due(x.coatIs(0, 3), -1);
    due(x.coatIs(1, 0), 0);
    due(x.coatIs(1, 2), -1);
    x.wears(1, 1);
    due(x.coatIs(1, 3), 1);
    due(x.coatIs(0, 3), -1);
    due(x.coatIs(2, 0), BEYOND);
    due(x.coatIs(-1, 0), BEYOND);
    due(x.coatIs(0, 4), BEYOND);
    due(x.coatIs(0, -1), BEYOND);
  }

  private static void become() {
    begin(6);
    WrongCoats x = guests(1);
    x.coat(47, 0);
    x.wears(0, 0);
    due(x.become(0, 69), 4);
    due(x.coatIs(0, 0), 6);
    due(x.coatIs(0, 1), 9);
    due(x.coatIs(0, 2), 0);
    due(x.coatIs(0, 3), 0);
    due(x.become(0, 0), 6);
    due(x.become(0, 70), BEYOND);
    due(x.become(0, -1), BEYOND);
    due(x.become(1, 0), BEYOND);
    due(x.become(-1, 0), BEYOND);
    due(x.coatIs(0, 1), 0);
  }

  private static void as() {
    begin(7);
    WrongCoats x = new WrongCoats();
    int[] above = {-1, 0, 0, 0, 1, 2, 0};
    for (int kind = 0; kind < 7; kind++) {
      x.coat(10 * kind + 3, -1);
      for (int asked = 0; asked < 7; asked++) {
        boolean is = asked == kind || asked == 0 || above[kind] == asked;
        due(x.as(kind, asked), is ? 3 : KIND);
      }
    }
    due(x.as(0, 7), BEYOND);
    due(x.as(0, -1), BEYOND);
    due(x.as(7, 0), BEYOND);
    due(x.as(-1, 0), BEYOND);
  }

  private static void like() {
    begin(8);
    WrongCoats x = new WrongCoats();
    x.guest(7, 4, 2);
    x.guest(1, 0, 3);
    int[] marks = {2, 9, 5, 6, 1, 4, 1};
    for (int kind = 0; kind < 7; kind++) {
      x.coat(10 * kind + marks[kind], -1);
    }
    due(x.like(0, 0), 16);
    due(x.like(1, 0), 5);
    due(x.like(2, 0), 25);
    due(x.like(3, 0), 30);
    due(x.like(3, 1), 0);
    due(x.like(4, 0), 9);
    due(x.like(5, 0), 25);
    due(x.like(6, 0), 7);
    due(x.like(1, 1), 0);
    due(x.like(4, 1), 13);
    x.nights(5);
    due(x.like(4, 0), 29);
    due(x.like(1, 0), 5);
    x.night();
    due(x.like(4, 0), 9);
    untilNight(x, 12);
    due(x.like(4, 0), 29);
    text(x, 0, "g*100+s*10+n");
    due(x.like(0, 0), 99);
    text(x, 0, "s*10+n");
    due(x.like(0, 0), 25);
    text(x, 0, "0-g");
    due(x.like(0, 0), 0);
    due(x.like(7, 0), BEYOND);
    due(x.like(-1, 0), BEYOND);
    due(x.like(0, 2), BEYOND);
    due(x.like(0, -1), BEYOND);
  }

  private static void done() {
    begin(9);
    WrongCoats x = guests(7, 0);
    for (int kind = 0; kind < 7; kind++) {
      x.coat(10 * kind + 5, 0);
    }
    x.night();
    x.night();
    int[] dueOfFirst = {9, 18, 4, 9, 13, 7, 21};
    int[] dueOfSecond = {2, 4, 1, 2, -1, 4, 28};
    for (int kind = 0; kind < 7; kind++) {
      due(x.done(kind, 0), dueOfFirst[kind]);
      due(x.done(kind, 1), dueOfSecond[kind]);
    }
    x.night();
    due(x.done(0, 0), 7);
    text(x, 1, "d+w*5+o*50");
    due(x.done(0, 0), 92);
    due(x.done(0, 1), 0);
    text(x, 1, "0-200");
    due(x.done(0, 0), -99);
    text(x, 1, "200");
    due(x.done(0, 0), 99);
    due(x.done(7, 0), BEYOND);
    due(x.done(-1, 0), BEYOND);
    due(x.done(0, 2), BEYOND);
    due(x.done(0, -1), BEYOND);
  }

  private static void wears() {
    begin(10);
    WrongCoats x = guests(1, 2);
    x.coat(4, -1);
    x.coat(5, -1);
    due(x.wears(0, 0), -1);
    due(x.wears(0, 0), 0);
    due(x.wears(0, 1), 0);
    due(x.wears(1, 1), STATE);
    due(x.guestIs(1, 3), -1);
    due(x.wears(1, 0), -1);
    due(x.wears(0, -1), 1);
    due(x.wears(0, -1), -1);
    due(x.wears(0, 2), BEYOND);
    due(x.wears(0, -2), BEYOND);
    due(x.wears(2, 0), BEYOND);
    due(x.wears(-1, 0), BEYOND);
    due(x.guestIs(1, 3), 0);
  }

  private static void leaves() {
    begin(11);
    WrongCoats x = guests(1, 2, 3);
    due(x.leaves(0), NONE);
    x.coat(1, -1);
    x.coat(4, -1);
    x.coat(4, -1);
    due(x.leaves(3), BEYOND);
    due(x.leaves(-1), BEYOND);
    due(x.leaves(1), 1);
    due(x.leaves(1), STATE);
    due(x.leaves(0), 2);
    due(x.leaves(2), 0);
    due(x.coatIs(0, 3), 2);
    x.guest(1, 1, 1);
    due(x.leaves(3), NONE);
    due(x.leaves(2), STATE);
    WrongCoats none = guests(1);
    none.coat(39, -1);
    due(none.like(0, 0), 0);
    due(none.leaves(0), 0);
  }

  private static void feed() {
    begin(12);
    WrongCoats x = new WrongCoats();
    due(x.feed(0, 0), BEYOND);
    due(x.feed(0, 9), BEYOND);
    due(x.feed(0, -1), BEYOND);
    due(x.feed(0x0000003837363534L + (0x33L << 40), 6), 6);
    due(x.count(4), 6);
    due(x.text(0), -14);
    due(x.feed(0x67L, 1), 1);
    due(x.feed(0x4B4A49484746452BL, 1), 2);
    due(x.feed(0x39L, 1), 3);
    due(x.text(0), 1);
    due(x.law(0, 5, 0, 0), 14);
    for (int i = 1; i <= 7; i++) {
      due(x.feed(-1L, 8), 8 * i);
    }
    due(x.feed(-1L, 5), FULL);
    due(x.feed(-1L, 9), BEYOND);
    due(x.feed(-1L, 4), 60);
    due(x.feed(-1L, 1), FULL);
    due(x.text(0), -10);
    due(x.feed(0x2B67L, 1), 1);
    due(x.text(0), 1);
  }

  private static void text() {
    begin(13);
    WrongCoats x = new WrongCoats();
    due(text(x, 0, ""), -10);
    due(text(x, 0, "g"), 1);
    due(x.count(4), 0);
    due(text(x, 0, "g+"), -12);
    due(x.count(4), 0);
    due(x.law(0, 7, 0, 0), 7);
    String[] whole = {
      "1", "9999", "0000", "s", "n", "!g", "!!!!!g", "(((((g)))))", "!(!(!g))", "(g)*(s)", "g<s",
      "g<s&s<n", "g=s|s>n", "(g<s)<n", "g+s-n*2/3%4", "!!!!!g*!!!!!g", "((g)+((s)))", "g<(s<n)",
      "!g<!s", "1+1+1+1+1+1+1+1+1+1+1+1+1+1+1+1+1+1+1+1+1+1+1+1+1+1+1+1+10"
    };
    for (String w : whole) {
      due(text(x, 0, w), 1);
    }
    String[] faulty = {
      "d", "10000", "gs", "g g", " g", "g<s<n", "g<s=n&1", "!!!!!!g", "((((((g", "(!(!(!g", "(g",
      "g)", "()", "+g", "g++s", "g&", "g|", "!", "(g<s<n)", "1234g", "g(1)", "(((((g)))))+((((((",
      "g1", "1g", "G", "g<s+1<n", "g\u00e9", "g^s", "(g))", "!)"
    };
    int[] faults = {
      0, 4, 1, 1, 0, 3, 3, 5, 5, 5, 2, 1, 1, 0, 2, 2, 2, 1, 4, 4, 1, 17, 1, 1, 0, 5, 1, 1, 3, 1
    };
    for (int i = 0; i < faulty.length; i++) {
      due(text(x, 0, faulty[i]), -10 - faults[i]);
    }
    String sixty = "!g+g+g+g+g+g+g+g+g+g+g+g+g+g+g+g+g+g+g+g+g+g+g+g+g+g+g+g+g+g";
    due(text(x, 0, sixty), 1);
    due(x.law(0, 3, 0, 0), 87);
    due(text(x, 0, sixty.substring(1) + "+"), -70);
    due(text(x, 1, "g"), -10);
    due(text(x, 1, "d+w+o"), 1);
    feed(x, "g");
    due(x.text(2), BEYOND);
    due(x.text(-1), BEYOND);
    due(x.count(4), 1);
    due(x.text(0), 1);
    for (int k = 1; k <= 6; k++) {
      due(x.told(k), k == 1 ? 2 : 0);
    }
  }

  private static void untell() {
    begin(14);
    WrongCoats x = new WrongCoats();
    due(x.untell(1), 0);
    text(x, 1, "d+1");
    due(x.law(1, 1, 0, 0), 2);
    due(x.untell(0), 0);
    due(x.untell(1), 1);
    due(x.law(1, 1, 0, 0), 1);
    due(x.untell(1), 0);
    due(x.untell(2), BEYOND);
    due(x.untell(-1), BEYOND);
  }

  private static int law(String text, int a, int b, int c) {
    WrongCoats x = new WrongCoats();
    text(x, 1, text);
    return x.law(1, a, b, c);
  }

  private static void law() {
    begin(15);
    WrongCoats x = new WrongCoats();
    due(x.law(0, 100, 5, 5), 99);
    due(x.law(0, -1, 5, 5), 0);
    due(x.law(0, 42, 5, 5), 42);
    due(x.law(1, -100, 5, 5), -99);
    due(x.law(1, 100, 5, 5), 99);
    due(x.law(1, -42, 5, 5), -42);
    due(x.law(2, 0, 0, 0), BEYOND);
    due(x.law(-1, 0, 0, 0), BEYOND);
    due(law("d+2*w", 3, 4, 0), 11);
    due(law("d-w-o", 1, 2, 3), -4);
    due(law("d/w*o", 7, 2, 3), 9);
    due(law("d/w", -7, 2, 0), -3);
    due(law("d%w", -7, 2, 0), -1);
    due(law("d/w", 7, 0, 0), 0);
    due(law("d%w", 7, 0, 0), 0);
    due(law("d/w%50", Integer.MIN_VALUE, -1, 0), -48);
    due(law("d%w", Integer.MIN_VALUE, -1, 0), 0);
    due(law("d*w", 65536, 65536, 0), 0);
    due(law("d+1", Integer.MAX_VALUE, 0, 0), -99);
    due(law("d<w", 1, 2, 0), 1);
    due(law("d<w", 2, 2, 0), 0);
    due(law("d>w", 3, 2, 0), 1);
    due(law("d=w", 2, 2, 0), 1);
    due(law("d&w", 5, 6, 0), 1);
    due(law("d&w", 5, 0, 0), 0);
    due(law("d|w", 0, -6, 0), 1);
    due(law("d|w", 0, 0, 0), 0);
    due(law("!d", 0, 0, 0), 1);
    due(law("!d", 7, 0, 0), 0);
    due(law("!!d", 7, 0, 0), 1);
    due(law("!d+5", 0, 0, 0), 6);
    due(law("!d*w", 0, 8, 0), 8);
    due(law("d|w&o", 1, 0, 0), 1);
    due(law("(d|w)&o", 1, 0, 0), 0);
    due(law("d&w=o", 4, 2, 2), 1);
    due(law("d+w*o=50-w", 2, 10, 4), 0);
    due(law("d+w<o*3", 2, 10, 5), 1);
    due(law("(d-(w-o))*2", 9, 5, 1), 10);
    due(law("!(d-w)+o", 5, 5, 7), 8);
  }

  private static void night() {
    begin(16);
    WrongCoats x = guests(5, 7);
    x.coat(4, 0);
    x.coat(14, 1);
    due(x.night(), 0);
    due(x.count(2), 1);
    x.wears(0, 0);
    x.wears(1, 1);
    due(x.night(), 22);
    due(x.count(3), 22);
    due(x.guestIs(0, 3), -1);
    due(x.guestIs(1, 3), -1);
    text(x, 1, "0-99");
    x.wears(0, 1);
    due(x.night(), -99);
    due(x.count(3), -77);
    due(x.count(2), 3);
    untilNight(x, 9998);
    due(x.night(), 0);
    due(x.count(2), 9999);
    x.wears(0, 1);
    due(x.night(), STATE);
    due(x.guestIs(0, 3), 1);
    due(x.count(2), 9999);
  }

  private static void nights() {
    begin(17);
    WrongCoats x = guests(5, 7);
    x.coat(4, -1);
    x.coat(14, -1);
    due(x.nights(0), BEYOND);
    due(x.nights(31), BEYOND);
    due(x.nights(-1), BEYOND);
    due(x.nights(1), 19);
    due(x.nights(2), 6 + 16 + 7 + 18);
    x.wears(0, 1);
    due(x.nights(1), 10 + 7);
    due(x.count(2), 4);
    due(x.count(3), 83);
    text(x, 1, "99");
    for (int i = 0; i < 18; i++) {
      due(x.nights(30), 5940);
    }
    due(x.count(3), 99999);
    text(x, 1, "0-99");
    due(x.nights(1), -198);
    due(x.count(3), 99999 - 198);
    for (int i = 0; i < 36; i++) {
      x.nights(30);
    }
    due(x.count(3), -99999);
    untilNight(x, 9980);
    due(x.nights(20), STATE);
    due(x.nights(31), BEYOND);
    due(x.nights(19), -19 * 198);
    due(x.nights(1), STATE);
    due(x.count(2), 9999);
  }

  private static void loose() {
    begin(18);
    WrongCoats none = new WrongCoats();
    due(none.loose(5), 0);
    due(none.count(7), 1);
    due(none.count(2), 5);
    WrongCoats x = guests(1, 2, 3);
    x.coat(4, -1);
    text(x, 1, "d*w");
    int z = 1;
    int[] wits = {1, 2, 3};
    for (int night = 0; night < 12; night++) {
      z = z * 1103515245 + 12345;
      int wit = wits[(z >>> 8) % 3];
      due(x.loose(1), wit * (wit + night % 3));
      due(x.count(7), z);
    }
    due(x.count(2), 12);
    due(x.loose(0), BEYOND);
    due(x.loose(31), BEYOND);
    x.wears(2, 0);
    due(x.loose(1), 9);
    z = z * 1103515245 + 12345;
    due(x.count(7), z);
    untilNight(x, 9970);
    due(x.loose(30), STATE);
    x.loose(29);
    due(x.count(2), 9999);
    due(x.loose(1), STATE);
  }

  private static void seed() {
    begin(19);
    WrongCoats x = guests(1);
    due(x.seed(Integer.MIN_VALUE), 1);
    due(x.seed(-5), Integer.MIN_VALUE);
    due(x.count(7), -5);
    x.loose(1);
    due(x.seed(0), -5 * 1103515245 + 12345);
    x.seed(-1000000001);
    due(x.seed(0), -1000000001);
    due(x.told(1), 0);
  }

  private static void best() {
    begin(20);
    WrongCoats x = guests(9, 1, 5);
    due(x.best(-1), 0);
    due(x.best(0), -1);
    x.coat(14, -1);
    due(x.best(-1), 18);
    due(x.best(0), 0);
    due(x.best(1), -1);
    x.coat(64, -1);
    due(x.best(-1), 18 + 29);
    due(x.best(1), 1);
    due(x.best(2), -1);
    x.coat(49, -1);
    x.coat(4, -1);
    due(x.best(-1), 18 + 29 + 5);
    due(x.best(2), 3);
    x.wears(1, 0);
    due(x.best(-1), 52);
    due(x.best(3), NONE);
    due(x.best(6), NONE);
    due(x.best(7), BEYOND);
    due(x.best(-2), BEYOND);
    WrongCoats ties = guests(0, 0, 0);
    ties.coat(4, -1);
    ties.coat(4, -1);
    due(ties.best(-1), 0);
    due(ties.best(0), 0);
    due(ties.best(1), 1);
    due(ties.best(2), -1);
    text(ties, 1, "0-1");
    due(ties.best(-1), 0);
    due(ties.best(0), -1);
    due(ties.best(2), -1);
    WrongCoats some = guests(0, 9);
    some.coat(4, -1);
    text(some, 1, "w-5");
    due(some.best(-1), 4);
    due(some.best(0), -1);
    due(some.best(1), 0);
    WrongCoats fewer = guests(3);
    fewer.image();
    fewer.guest(9, 9, 0);
    fewer.coat(4, -1);
    due(fewer.best(-1), 9);
    fewer.restore();
    due(fewer.best(-1), 0);
    WrongCoats seven = guests(1, 2, 3, 4, 5, 6, 7);
    for (int i = 0; i < 7; i++) {
      seven.coat(60, -1);
    }
    due(seven.best(-1), 7 * 30 - 28);
    for (int i = 0; i < 7; i++) {
      due(seven.best(i), i);
    }
  }

  private static void order() {
    begin(21);
    WrongCoats x = guests(1, 9, 5);
    due(x.order(-1), 0);
    due(x.order(0), 0);
    due(x.order(2), 2);
    x.coat(14, -1);
    due(x.order(-1), 18);
    due(x.order(0), 1);
    due(x.order(1), 0);
    due(x.order(2), 2);
    x.coat(4, -1);
    due(x.order(-1), 18 + 5);
    due(x.order(0), 2);
    due(x.order(1), 1);
    due(x.order(2), 0);
    x.wears(0, 0);
    due(x.order(-1), 23);
    due(x.order(3), NONE);
    due(x.order(6), NONE);
    due(x.order(7), BEYOND);
    due(x.order(-2), BEYOND);
    text(x, 1, "0-d");
    due(x.order(-1), -5 - 2);
    due(x.order(0), 2);
    due(x.order(1), 0);
    for (int i = 0; i < 3; i++) {
      x.guest(0, 0, 0);
    }
    due(x.order(5), 5);
    due(x.order(6), NONE);
    x.guest(0, 0, 0);
    due(x.order(-1), STATE);
    due(x.order(6), STATE);
    due(x.order(7), BEYOND);
  }

  private static void right() {
    begin(22);
    WrongCoats x = guests(1, 2, 3);
    x.coat(0, 1);
    x.coat(0, 1);
    x.coat(0, -1);
    due(x.right(), 0);
    x.wears(1, 1);
    due(x.right(), 1);
    x.wears(0, 0);
    due(x.right(), 1);
    x.wears(2, 2);
    due(x.right(), 1);
    x.wears(1, -1);
    due(x.right(), 0);
    WrongCoats seven = guests(1, 2, 3, 4, 5, 6, 7);
    for (int i = 0; i < 7; i++) {
      seven.coat(0, i);
      seven.wears(i, i);
      due(seven.right(), i + 1);
    }
    due(seven.left(0), 0);
  }

  private static void left() {
    begin(23);
    WrongCoats x = guests(1, 2);
    due(x.left(0), 0);
    due(x.left(1), 0);
    for (int i = 0; i < 7; i++) {
      x.coat(0, -1);
    }
    due(x.left(0), 127);
    due(x.left(1), 7);
    x.wears(0, 6);
    x.wears(1, 0);
    due(x.left(0), 62);
    due(x.left(1), 5);
    due(x.left(2), BEYOND);
    due(x.left(-1), BEYOND);
  }

  private static void odds() {
    begin(24);
    WrongCoats x = guests(1, 2, 3, 4);
    due(x.odds(0, 0), 0);
    due(x.odds(0, 1), 1);
    x.coat(4, 3);
    x.coat(5, 0);
    x.coat(6, 2);
    x.coat(7, 2);
    due(x.odds(3, 0), 1);
    due(x.odds(3, 1), 4);
    due(x.odds(0, 0), 1);
    due(x.odds(0, 1), 4);
    due(x.odds(2, 0), 1);
    due(x.odds(2, 1), 2);
    due(x.odds(1, 0), 0);
    due(x.odds(1, 1), 1);
    x.wears(3, 0);
    due(x.odds(3, 1), 4);
    due(x.odds(4, 0), BEYOND);
    due(x.odds(-1, 0), BEYOND);
    due(x.odds(0, 2), BEYOND);
    due(x.odds(0, -1), BEYOND);
    WrongCoats one = guests(1);
    one.coat(0, 0);
    due(one.odds(0, 0), 1);
    due(one.odds(0, 1), 1);
    due(new WrongCoats().odds(0, 0), BEYOND);
  }

  private static void fits() {
    begin(25);
    WrongCoats x = guests(1, 2, 3);
    x.coat(4, -1);
    x.coat(5, -1);
    due(x.fits(0, 0), NONE);
    due(x.fits(4, 0), BEYOND);
    due(x.fits(-1, 0), BEYOND);
    due(x.fits(0, 2), BEYOND);
    due(x.fits(0, -1), BEYOND);
    sheet(x, 0, 8, 0, 1, -1);
    due(x.fits(0, 0), 1);
    due(x.fits(0, 1), 0);
    sheet(x, 1, 32, -1, 0, 1);
    due(x.fits(1, 0), 2);
    due(x.fits(1, 1), 1);
    sheet(x, 2, 16, 1, -1);
    due(x.fits(2, 0), 4);
    due(x.fits(2, 1), 2);
    x.wears(2, 1);
    due(x.fits(2, 0), 4);
    sheet(x, 3, 16, 1, 1);
    due(x.fits(3, 0), 0);
    due(x.fits(3, 1), NONE);
    x.sheet(3, 8, 0);
    due(x.fits(3, 0), 7);
    due(x.fits(3, 1), 0);
    due(new WrongCoats().fits(0, 1), NONE);
    WrongCoats nobody = new WrongCoats();
    nobody.sheet(0, 8, 0);
    due(nobody.fits(0, 0), 0);
    due(nobody.fits(0, 1), NONE);
    sheet(x, 0, 8, 0, 1, -1, -1);
    due(x.fits(0, 0), 0);
  }

  private static void trace(WrongCoats x, int... bodies) {
    due(x.count(6), bodies.length);
    for (int i = 0; i < bodies.length; i++) {
      due(x.body(i), bodies[i]);
    }
    due(x.body(bodies.length), NONE);
  }

  private static void voice() {
    begin(26);
    WrongCoats x = new WrongCoats();
    int[] marks = {4, 3, 7, 9, 6, 8, 2};
    for (int kind = 0; kind < 7; kind++) {
      x.coat(10 * kind + marks[kind], -1);
    }
    int[][] answers = {
      {10, 20, 16, 2},
      {7, 14, 11, 5 - 4},
      {12, -24, -31, 2},
      {13, 26, 7, 1},
      {30, 60, 54 ^ 4, 5 + 2 * 3},
      {15, -32, -40, 3},
      {9, 20, 18, -2}
    };
    for (int kind = 0; kind < 7; kind++) {
      for (int voice = 0; voice < 4; voice++) {
        due(x.voice(kind, voice, 10), answers[kind][voice]);
      }
    }
    due(x.voice(0, 0, Integer.MAX_VALUE), Integer.MAX_VALUE);
    due(x.voice(2, 0, Integer.MAX_VALUE), Integer.MIN_VALUE + 1);
    due(x.voice(0, 0, -1000000001), -1000000001);
    due(x.told(1), 0);
    due(x.voice(7, 0, 0), BEYOND);
    due(x.voice(-1, 0, 0), BEYOND);
    due(x.voice(0, 4, 0), BEYOND);
    due(x.voice(0, -1, 0), BEYOND);
    x.become(0, 0);
    due(x.voice(0, 3, 10), PARTED);
    x.become(1, 11);
    due(x.voice(1, 3, 10), PARTED);
    due(x.voice(1, 2, 10), 13);
    due(x.told(6), 2);
    due(x.told(1), 4);
    x.become(1, 10);
    due(x.voice(1, 3, Integer.MIN_VALUE), Integer.MIN_VALUE - 4);
  }

  private static void body() {
    begin(27);
    WrongCoats x = new WrongCoats();
    due(x.body(0), NONE);
    for (int kind = 0; kind < 7; kind++) {
      x.coat(10 * kind + 9, -1);
    }
    int[][][] traces = {
      {{10}, {11, 10}, {12, 11, 10}, {13}},
      {{20, 10}, {11, 20, 10}, {12, 11, 20, 10}, {21, 13, 11, 20, 10}},
      {{10}, {30, 11, 10}, {12, 30, 11, 10}, {13}},
      {{10}, {11, 10}, {40, 12, 11, 10}, {13}},
      {{50, 20, 10}, {11, 50, 20, 10}, {51, 12, 11, 50, 20, 10}, {21, 13, 11, 50, 20, 10}},
      {{10}, {60, 30, 11, 10}, {12, 60, 30, 11, 10}, {13}},
      {{70}, {71, 11, 70}, {12, 71, 11, 70}, {13}}
    };
    for (int kind = 0; kind < 7; kind++) {
      for (int voice = 0; voice < 4; voice++) {
        x.voice(kind, voice, 1);
        trace(x, traces[kind][voice]);
      }
    }
    due(x.body(-1), NONE);
    due(x.body(Integer.MAX_VALUE), NONE);
    due(x.voice(9, 0, 0), BEYOND);
    trace(x, 13);
    x.voice(6, 0, 0);
    x.become(1, 11);
    due(x.voice(1, 3, 5), PARTED);
    trace(x, 21, 13);
    due(x.voice(9, 0, 0), BEYOND);
    due(x.voice(1, 4, 0), BEYOND);
    trace(x, 21, 13);
    x.become(4, 44);
    x.voice(6, 0, 0);
    due(x.voice(4, 3, 5), PARTED);
    trace(x, 21, 13);
    x.become(0, 0);
    x.voice(0, 1, 0);
    due(x.voice(0, 3, 0), PARTED);
    trace(x, 13);
    x.become(0, 1);
    x.voice(0, 3, 0);
    trace(x, 13);
    x.voice(1, 0, 0);
    trace(x, 20, 10);
  }

  private static void sheet() {
    begin(28);
    WrongCoats x = guests(1, 2);
    x.coat(0, -1);
    x.coat(0, -1);
    due(x.sheet(0, 8, 24), 1);
    due(x.sheet(1, 16, 0), 1);
    due(x.sheet(3, 32, 2), 1);
    due(x.sheet(4, 8, 1), BEYOND);
    due(x.sheet(-1, 8, 1), BEYOND);
    due(x.sheet(0, 7, 1), BEYOND);
    due(x.sheet(0, 64, 1), BEYOND);
    due(x.sheet(0, 8, -1), STATE);
    due(x.sheet(0, 8, 25), BEYOND);
    due(x.sheet(4, 8, -1), BEYOND);
    due(x.sheet(0, 9, -1), BEYOND);
    due(x.put(0, 23, 1), 1);
    due(x.put(3, 0, 1), 1);
    due(x.wearsAll(3), 2);
    due(x.guestIs(0, 3), 1);
    due(x.sheet(3, 32, 1), 1);
    due(x.wearsAll(3), 1);
    due(x.guestIs(0, 3), 0);
    due(x.sheet(3, 0, -7), 1);
    due(x.judge(3), NONE);
    due(x.sheet(2, 0, 99), 1);
    due(x.judge(2), NONE);
    due(x.sheet(4, 0, 0), BEYOND);
  }

  private static void put() {
    begin(29);
    WrongCoats x = guests(1);
    x.coat(0, -1);
    x.coat(0, -1);
    due(x.put(4, 0, 0), BEYOND);
    due(x.put(-1, 0, 0), BEYOND);
    due(x.put(0, 0, 0), NONE);
    due(x.put(0, -1, 0), NONE);
    int[] bits = {8, 16, 32};
    for (int b = 0; b < 3; b++) {
      x.sheet(b, bits[b], 2);
      due(x.put(b, 2, 0), BEYOND);
      due(x.put(b, -1, 0), BEYOND);
      due(x.put(b, 1, 5), 1);
      due(x.put(b, 0, 1), 1);
      x.wearsAll(b);
      due(x.guestIs(0, 3), 1);
      x.put(b, 0, 0x101);
      due(x.wearsAll(b), b == 0 ? 1 : 0);
      x.put(b, 0, 0x10001);
      due(x.wearsAll(b), b == 2 ? 0 : 1);
      x.put(b, 0, 255);
      due(x.judge(b), 0);
      x.wearsAll(b);
      due(x.guestIs(0, 3), -1);
      due(x.judge(b), b == 0 ? 1 : 0);
      x.put(b, 0, 65535);
      due(x.judge(b), b == 2 ? 0 : 1);
      x.put(b, 0, -1);
      due(x.judge(b), 1);
    }
  }

  private static void move() {
    begin(30);
    WrongCoats x = guests(1, 2, 3, 4, 5);
    for (int i = 0; i < 5; i++) {
      x.coat(0, -1);
    }
    sheet(x, 0, 8, 0, 1, 2, 3, 4);
    x.sheet(1, 8, 5);
    x.sheet(2, 16, 5);
    due(x.move(4, 0, 0, 0, 1), BEYOND);
    due(x.move(0, 0, 4, 0, 1), BEYOND);
    due(x.move(-1, 0, 0, 0, 1), BEYOND);
    due(x.move(3, 0, 4, 0, 1), BEYOND);
    due(x.move(3, 0, 2, 0, 1), NONE);
    due(x.move(0, 0, 3, 0, -1), NONE);
    due(x.move(0, 0, 2, 0, -1), KIND);
    due(x.move(0, 0, 1, 0, -1), BEYOND);
    due(x.move(0, -1, 1, 0, 1), BEYOND);
    due(x.move(0, 0, 1, -1, 1), BEYOND);
    due(x.move(0, 1, 1, 0, 5), BEYOND);
    due(x.move(0, 0, 1, 1, 5), BEYOND);
    due(x.move(0, Integer.MAX_VALUE, 1, 0, 1), BEYOND);
    due(x.move(0, 0, 1, 0, Integer.MAX_VALUE), BEYOND);
    due(x.move(0, 6, 1, 0, 0), BEYOND);
    due(x.move(0, 5, 1, 5, 0), 0);
    due(x.move(0, 1, 1, 0, 4), 4);
    due(x.wearsAll(1), 5);
    due(x.guestIs(0, 3), 1);
    due(x.guestIs(3, 3), 4);
    due(x.put(1, 4, 0), 1);
    due(x.wearsAll(1), 5);
    due(x.move(1, 0, 1, 1, 4), 4);
    due(x.put(1, 0, 0), 1);
    due(x.wearsAll(1), 5);
    for (int i = 0; i < 5; i++) {
      due(x.guestIs(i, 3), i);
    }
    due(x.move(1, 1, 1, 0, 4), 4);
    due(x.put(1, 4, 0), 1);
    due(x.wearsAll(1), 5);
    due(x.guestIs(0, 3), 1);
    due(x.guestIs(3, 3), 4);
  }

  private static void wearsAll() {
    begin(31);
    WrongCoats x = guests(1, 2, 3);
    x.coat(0, -1);
    x.coat(0, -1);
    x.wears(2, 1);
    due(x.wearsAll(4), BEYOND);
    due(x.wearsAll(-1), BEYOND);
    due(x.wearsAll(0), NONE);
    due(x.guestIs(2, 3), 1);
    sheet(x, 0, 8, 1, 0, -1);
    due(x.wearsAll(0), 3);
    due(x.guestIs(0, 3), 1);
    due(x.guestIs(1, 3), 0);
    due(x.guestIs(2, 3), -1);
    sheet(x, 0, 8, 0, 0, 1);
    due(x.wearsAll(0), 1);
    due(x.guestIs(0, 3), 0);
    due(x.guestIs(1, 3), -1);
    due(x.guestIs(2, 3), -1);
    sheet(x, 0, 8, -1, 2, 1);
    due(x.wearsAll(0), 1);
    sheet(x, 0, 8, -1, -2, 1);
    due(x.wearsAll(0), 1);
    sheet(x, 0, 8, -1, -1, -1, -1);
    due(x.wearsAll(0), 3);
    x.wears(0, 0);
    x.sheet(0, 32, 0);
    due(x.wearsAll(0), 0);
    due(x.guestIs(0, 3), -1);
    due(x.told(1), 2);
    due(x.told(2), 1);
  }

  private static void judge() {
    begin(32);
    WrongCoats x = guests(1, 2, 3);
    x.coat(0, -1);
    x.coat(0, -1);
    x.wears(0, 1);
    x.wears(2, 0);
    due(x.judge(4), BEYOND);
    due(x.judge(-1), BEYOND);
    due(x.judge(0), NONE);
    sheet(x, 0, 16, 1, -1, 0);
    due(x.judge(0), 3);
    sheet(x, 0, 16, 1, -1, 0, -1);
    due(x.judge(0), 3);
    sheet(x, 0, 16, 1, 0, 0);
    due(x.judge(0), 1);
    sheet(x, 0, 16, 0, -1, 0);
    due(x.judge(0), 0);
    sheet(x, 0, 16, 1, -1);
    due(x.judge(0), 2);
    due(x.guestIs(0, 3), 1);
  }

  private static void image() {
    begin(33);
    WrongCoats x = guests(1, 2);
    x.coat(15, 1);
    due(x.image(), 1);
    due(x.image(), 2);
    x.nights(3);
    due(x.image(), 3);
    x.nights(4);
    due(x.restore(), 3);
    due(x.image(), 4);
  }

  private static void restore() {
    begin(34);
    WrongCoats x = guests(1, 2);
    due(x.restore(), NONE);
    x.coat(15, 1);
    x.wears(1, 0);
    text(x, 0, "7");
    feed(x, "s+1");
    x.tell(1);
    x.seed(99);
    x.sheet(0, 8, 1);
    x.image();
    x.guest(3, 3, 3);
    x.coat(3, 2);
    x.become(0, 69);
    x.wears(1, -1);
    x.untell(0);
    text(x, 1, "3");
    x.tell(5);
    x.voice(0, 0, 1);
    x.sheet(0, 0, 0);
    x.loose(3);
    due(x.restore(), 0);
    due(x.restore(), 0);
    due(x.count(0), 2);
    due(x.count(1), 1);
    due(x.count(2), 0);
    due(x.count(3), 0);
    due(x.count(4), 3);
    due(x.count(5), 1);
    due(x.count(6), 1);
    due(x.count(7), 99);
    due(x.coatIs(0, 0), 1);
    due(x.coatIs(0, 1), 5);
    due(x.guestIs(1, 3), 0);
    due(x.like(0, 0), 7);
    due(x.law(1, 4, 0, 0), 4);
    due(x.check(), 0);
    due(x.judge(0), NONE);
    due(x.told(2), 2);
    due(x.text(0), 1);
    due(x.law(0, 0, 5, 0), 6);
    due(x.restore(), 0);
    due(x.law(0, 0, 5, 0), 7);
  }

  private static void tell() {
    begin(35);
    WrongCoats x = new WrongCoats();
    for (int i = 1; i <= 24; i++) {
      due(x.tell(-i), i);
    }
    due(x.tell(0), FULL);
    due(x.count(5), 24);
    due(x.check(), 1);
    due(x.tell(0), 1);
  }

  private static void check() {
    begin(36);
    WrongCoats x = guests(1, 2);
    x.coat(0, 1);
    x.coat(0, -1);
    due(x.check(), 0);
    x.tell(1);
    due(x.check(), 0);
    due(x.count(5), 0);
    x.tell(1);
    x.tell(-1);
    due(x.check(), 0);
    x.tell(0);
    due(x.check(), 1);
    due(x.count(5), 0);
    due(x.coatIs(0, 2), 1);
    x.tell(1);
    x.tell(0);
    x.tell(0);
    due(x.check(), 2);
    x.tell(1);
    x.tell(-1);
    x.tell(-1);
    due(x.check(), 3);
  }

  private static void count() {
    begin(37);
    WrongCoats x = guests(1, 2);
    x.coat(4, -1);
    feed(x, "g+s");
    x.tell(1);
    x.voice(0, 1, 1);
    x.seed(-1000000002);
    x.wears(1, 0);
    x.night();
    due(x.count(0), 2);
    due(x.count(1), 1);
    due(x.count(2), 1);
    due(x.count(3), 2);
    due(x.count(4), 3);
    due(x.count(5), 1);
    due(x.count(6), 2);
    due(x.count(7), -1000000002);
    due(x.told(2), 0);
    due(x.count(8), BEYOND);
    due(x.count(-1), BEYOND);
  }

  private static void told() {
    begin(38);
    WrongCoats x = new WrongCoats();
    due(x.told(0), BEYOND);
    due(x.told(7), BEYOND);
    due(x.told(Integer.MIN_VALUE), BEYOND);
    due(x.told(1), 3);
    x.restore();
    due(x.told(2), 1);
    x.sheet(0, 8, -1);
    due(x.told(3), 1);
    for (int i = 0; i < 26; i++) {
      x.tell(0);
    }
    due(x.told(4), 2);
    x.coat(10, -1);
    x.as(0, 2);
    due(x.told(5), 1);
    x.become(0, 0);
    x.voice(0, 3, 1);
    due(x.told(6), 1);
    due(x.told(1), 3);
  }

  public static void main(String[] args) {
    newObject();
    guest();
    guestIs();
    coat();
    coatIs();
    become();
    as();
    like();
    done();
    wears();
    leaves();
    feed();
    text();
    untell();
    law();
    night();
    nights();
    loose();
    seed();
    best();
    order();
    right();
    left();
    odds();
    fits();
    voice();
    body();
    sheet();
    put();
    move();
    wearsAll();
    judge();
    image();
    restore();
    tell();
    check();
    count();
    told();
    System.out.println(wrong == 0 ? "all promises hold" : wrong + " rows are wrong");
    if (wrong != 0) {
      System.exit(1);
    }
  }
}
