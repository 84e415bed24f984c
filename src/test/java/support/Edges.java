import java.io.IOException;
import java.lang.reflect.InvocationTargetException;
import java.lang.reflect.Method;
import java.util.ArrayList;
import java.util.Arrays;
import java.util.Comparator;
import java.util.List;

/**
 * What the tests of edges share. A test is a method with @Says, that quotes the sentences that it
 * stands for; no object is used for more than 512 calls, as later answers are free.
 */
abstract class Edges {
  static final int LOW = -1000000000;
  static final int BEYOND = LOW - 1;
  static final int NONE = LOW - 2;
  static final int STATE = LOW - 3;
  static final int FULL = LOW - 4;
  static final int KIND = LOW - 5;
  static final int PARTED = LOW - 6;
  static final int LEAST_INT = Integer.MIN_VALUE;
  static final int MOST_INT = Integer.MAX_VALUE;

  /** Makes the same object each time. */
  interface Made {
    WrongCoats one();
  }

  interface Act {
    int on(WrongCoats x);
  }

  interface ActWith {
    int on(WrongCoats x, int v);
  }

  private static String test = "";
  private static int question;
  private static int wrong;

  // ---- questions

  static void due(long got, long want) {
    question++;
    if (got != want) {
      wrong++;
      System.out.println(
          test + ", question " + question + ": answered " + got + ", due is " + want);
    }
  }

  static void due(List<Integer> got, List<Integer> want) {
    question++;
    if (!got.equals(want)) {
      wrong++;
      System.out.println(test + ", question " + question + ": seen " + got + ", due is " + want);
    }
  }

  /** The act answers an ERROR, and then all is as if it had not been, but that told() counts it. */
  static void refused(int error, Made made, Act act) {
    for (int way = 0; way < WAYS; way++) {
      WrongCoats left = made.one();
      WrongCoats tried = made.one();
      due(act.on(tried), error);
      List<Integer> want = counted(left);
      want.set(LOW - error - 1, want.get(LOW - error - 1) + 1);
      due(counted(tried), want);
      due(look(way, tried), look(way, left));
    }
  }

  /** The act answers what it may, and all stays as if it had not been. */
  static void changesNothing(Made made, Act act) {
    for (int way = 0; way < WAYS; way++) {
      WrongCoats left = made.one();
      WrongCoats tried = made.one();
      act.on(tried);
      due(counted(tried), counted(left));
      due(look(way, tried), look(way, left));
    }
  }

  /** The act answers no ERROR, and told() counts none. */
  static int taken(Made made, Act act) {
    WrongCoats x = made.one();
    List<Integer> before = counted(x);
    int answer = act.on(x);
    due(answer < LOW ? answer : 0, 0);
    due(counted(x), before);
    return answer;
  }

  /** Both ends are still taken; the first on each side of them, and the farthest, are BEYOND. */
  static void ends(Made made, int least, int most, ActWith act) {
    taken(made, x -> act.on(x, least));
    taken(made, x -> act.on(x, most));
    refused(BEYOND, made, x -> act.on(x, least - 1));
    refused(BEYOND, made, x -> act.on(x, most + 1));
    refused(BEYOND, made, x -> act.on(x, LEAST_INT));
    refused(BEYOND, made, x -> act.on(x, MOST_INT));
  }

  // ---- what can be seen of an object; each way asks one of its own, as most ways change it

  private static final int WAYS = 5;

  private static List<Integer> look(int way, WrongCoats x) {
    List<Integer> seen = new ArrayList<>();
    switch (way) {
      case 0:
        seePlain(x, seen);
        break;
      case 1:
        seeTape(x, seen);
        break;
      case 2:
        seen.add(x.check());
        seen.add(x.count(5));
        break;
      case 3:
        seeImage(x, seen);
        break;
      default:
        seeSheets(x, seen);
    }
    return seen;
  }

  static List<Integer> counted(WrongCoats x) {
    List<Integer> all = new ArrayList<>();
    for (int k = 1; k <= 6; k++) {
      all.add(x.told(k));
    }
    return all;
  }

  static List<Integer> trace(WrongCoats x) {
    List<Integer> bodies = new ArrayList<>();
    int most = x.count(6);
    for (int i = 0; i < most; i++) {
      bodies.add(x.body(i));
    }
    return bodies;
  }

  private static void seePlain(WrongCoats x, List<Integer> seen) {
    for (int what = 0; what <= 7; what++) {
      seen.add(x.count(what));
    }
    int guests = seen.get(0);
    int coats = seen.get(1);
    for (int g = 0; g < guests; g++) {
      for (int what = 0; what <= 4; what++) {
        seen.add(x.guestIs(g, what));
      }
    }
    for (int c = 0; c < coats; c++) {
      for (int what = 0; what <= 2; what++) {
        seen.add(x.coatIs(c, what));
      }
    }
    seeLaws(x, seen);
    seen.addAll(trace(x));
  }

  private static void seeLaws(WrongCoats x, List<Integer> seen) {
    for (int use = 0; use <= 1; use++) {
      seen.add(x.law(use, 20, 3, 5));
      seen.add(x.law(use, 7, 1, 1));
      seen.add(x.law(use, -7, 2, 0));
    }
  }

  private static void seeTape(WrongCoats x, List<Integer> seen) {
    seen.add(x.text(0));
    seeLaws(x, seen);
  }

  private static void seeImage(WrongCoats x, List<Integer> seen) {
    seen.add(x.restore());
    seePlain(x, seen);
    seen.add(x.image());
    seen.add(x.check());
    seeTape(x, seen);
  }

  /** Number after number is brought to place 0, and the first guest wears it, if it is a COAT. */
  private static void seeSheets(WrongCoats x, List<Integer> seen) {
    if (x.count(0) == 0) {
      x.guest(0, 0, 0);
    }
    for (int coats = x.count(1); coats < 7; coats++) {
      x.coat(0, -1);
    }
    for (int s = 0; s <= 3; s++) {
      for (int i = 0; i < 5; i++) {
        seen.add(x.move(s, i, s, 0, 1));
        seen.add(x.wearsAll(s));
        seen.add(x.guestIs(0, 3));
      }
      for (int v : new int[] {0x101, 0x10001}) {
        seen.add(x.put(s, 0, v));
        seen.add(x.wearsAll(s));
        seen.add(x.guestIs(0, 3));
      }
    }
  }

  // ---- objects

  static void feed(WrongCoats x, String text) {
    for (int at = 0; at < text.length(); at += 8) {
      int n = Math.min(8, text.length() - at);
      long word = 0;
      for (int i = 0; i < n; i++) {
        word |= (long) text.charAt(at + i) << (8 * i);
      }
      x.feed(word, n);
    }
  }

  static int text(WrongCoats x, int use, String text) {
    feed(x, text);
    return x.text(use);
  }

  static void sheet(WrongCoats x, int sheet, int bits, int... numbers) {
    x.sheet(sheet, bits, numbers.length);
    for (int i = 0; i < numbers.length; i++) {
      x.put(sheet, i, numbers[i]);
    }
  }

  static void untilNight(WrongCoats x, int night) {
    int now = x.count(2);
    while (now < night) {
      int n = Math.min(30, night - now);
      x.nights(n);
      now += n;
    }
  }

  /** Guests of WIT 0, 1, .., SIZE 4 and SMELL 0, and COATS with m 4 that nobody owns. */
  static WrongCoats house(int guests, int coats) {
    WrongCoats x = new WrongCoats();
    for (int g = 0; g < guests; g++) {
      x.guest(g, 4, 0);
    }
    for (int c = 0; c < coats; c++) {
      x.coat(4, -1);
    }
    return x;
  }

  /**
   * 4 GUESTS (0 wears 1, 2 wears 4), 5 COATS, NIGHT 3: of everything there is something, and the
   * IMAGE is unlike it, so that a change can be seen wherever it is.
   */
  static WrongCoats full() {
    WrongCoats x = new WrongCoats();
    x.guest(5, 4, 1);
    x.guest(2, 7, 0);
    x.coat(4, 0);
    x.coat(17, 1);
    text(x, 0, "g*2+s");
    text(x, 1, "d+o*7-1");
    x.nights(2);
    x.wears(1, 0);
    feed(x, "n+5");
    x.tell(0);
    x.image();
    x.image();
    x.night();
    x.guest(9, 2, 3);
    x.guest(0, 9, 2);
    x.coat(22, 2);
    x.coat(45, -1);
    x.coat(51, 3);
    x.wears(0, 1);
    x.wears(2, 4);
    x.text(0);
    text(x, 1, "9-d*w");
    feed(x, "s*3+g");
    x.seed(77);
    x.tell(1);
    x.tell(2);
    sheet(x, 0, 8, 1, -1, 3);
    sheet(x, 1, 16, 2, 0);
    sheet(x, 2, 32, 0, 4, -1, 1);
    x.voice(3, 2, 10);
    x.count(9);
    x.body(29);
    x.leaves(0);
    x.as(0, 1);
    return x;
  }

  /** As full(), with 7 GUESTS and 7 COATS. */
  static WrongCoats crowd() {
    WrongCoats x = full();
    x.guest(3, 3, 1);
    x.guest(8, 0, 2);
    x.guest(1, 6, 3);
    x.coat(36, 6);
    x.coat(69, 4);
    return x;
  }

  /** 2 GUESTS (0 wears 1) and 2 COATS in a late NIGHT. */
  static WrongCoats late(int night) {
    WrongCoats x = new WrongCoats();
    x.guest(5, 4, 1);
    x.guest(2, 7, 0);
    x.coat(4, 0);
    x.coat(17, 1);
    x.image();
    untilNight(x, night);
    x.wears(0, 1);
    feed(x, "g+s");
    x.tell(0);
    x.seed(5);
    x.voice(1, 0, 1);
    sheet(x, 0, 8, 1, -1);
    return x;
  }

  // ---- a run of tests

  static void run(Class<?> tests) throws IOException, IllegalAccessException {
    Document document = Document.read();
    Method[] all = tests.getDeclaredMethods();
    Arrays.sort(all, Comparator.comparing(Method::getName));
    int many = 0;
    for (Method m : all) {
      Says says = m.getAnnotation(Says.class);
      if (says == null) {
        continue;
      }
      many++;
      test = m.getName();
      question = 0;
      for (String said : says.value()) {
        if (!document.has(said)) {
          wrong++;
          System.out.println(test + ": the document doesn't say \"" + said + "\"");
        }
      }
      runOne(m);
    }
    if (many == 0) {
      wrong++;
    }
    System.out.println(many + " tests of sentences, " + wrong + " answers wrong");
    if (wrong != 0) {
      System.exit(1);
    }
  }

  private static void runOne(Method m) throws IllegalAccessException {
    try {
      m.setAccessible(true);
      m.invoke(null);
    } catch (InvocationTargetException e) {
      wrong++;
      System.out.println(test + ", after question " + question + ": threw " + e.getCause());
    }
  }
}
