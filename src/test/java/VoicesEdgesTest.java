import java.util.ArrayList;
import java.util.List;

/** The edges of voices and of THE TRACE: promises 26 and 27, part 4 of the Terms. */
public final class VoicesEdgesTest extends Edges {
  private static final int QUARTER = 0x40000000;

  /** COATS up to number k; k itself is of a KIND, with m. */
  private static WrongCoats one(int k, int km) {
    WrongCoats x = house(0, k);
    x.coat(km, -1);
    return x;
  }

  private static int voice(int k, int km, int voice, int x) {
    return one(k, km).voice(k, voice, x);
  }

  private static void trace(WrongCoats x, int... bodies) {
    List<Integer> want = new ArrayList<>();
    for (int b : bodies) {
      want.add(b);
    }
    due(x.count(6), bodies.length);
    due(trace(x), want);
    due(x.body(bodies.length), NONE);
  }

  // ---- promise 26: voice

  @Says("Promise 26: BEYOND.")
  static void promise26BeyondOfCoat() {
    for (int voice = 0; voice <= 3; voice++) {
      int v = voice;
      refused(BEYOND, Edges::full, x -> x.voice(5, v, 5));
      refused(BEYOND, Edges::full, x -> x.voice(-1, v, 5));
      refused(BEYOND, WrongCoats::new, x -> x.voice(0, v, 5));
    }
    ends(Edges::full, 0, 4, (x, coat) -> x.voice(coat, 1, 5));
    ends(Edges::crowd, 0, 6, (x, coat) -> x.voice(coat, 0, 5));
  }

  @Says({
    "Promise 26: BEYOND.",
    "Terms: 0 hangs, 1 keeps, 2 returns, 3 parts"
  })
  static void promise26BeyondOfVoice() {
    ends(Edges::full, 0, 3, (x, voice) -> x.voice(3, voice, 5));
  }

  @Says("Promise 26: BEYOND. PARTED.")
  static void promise26BeyondAheadOfParted() {
    Made parting = () -> one(5, 5);
    refused(BEYOND, parting, x -> x.voice(5, 4, 1));
    refused(BEYOND, parting, x -> x.voice(6, 3, 1));
  }

  @Says({"Promise 26: PARTED.", "Terms: cut (PARTED if that is 0; that is all that voice() answers then)"})
  static void promise26PartedOnlyIfMIsK() {
    for (int kind = 0; kind <= 6; kind++) {
      for (int k = 0; k <= 6; k++) {
        for (int m = 0; m <= 9; m++) {
          WrongCoats x = one(k, 10 * kind + m);
          boolean parted = x.voice(k, 3, 1000) == PARTED;
          due(parted ? 1 : 0, m == k ? 1 : 0);
          due(x.told(6), m == k ? 1 : 0);
        }
      }
    }
  }

  @Says("Terms: PARTED if that is 0; that is all that voice() answers then")
  static void promise26PartedByAnyX() {
    for (int kind = 0; kind <= 6; kind++) {
      for (int x : new int[] {0, 1, -1, LEAST_INT, MOST_INT}) {
        due(voice(0, 10 * kind, 3, x), PARTED);
        due(voice(6, 10 * kind + 6, 3, x), PARTED);
      }
    }
  }

  @Says("Promise 26: PARTED.")
  static void promise26OtherVoicesDontPart() {
    due(voice(4, 4, 0, 1), 5);
    due(voice(4, 4, 1, 1), 10);
    due(voice(4, 4, 2, 1), 6);
    due(voice(4, 14, 2, 1), -2);
    due(voice(4, 44, 2, 1), 2 ^ 4);
  }

  @Says({"Promise 26: PARTED.", "Terms: one that answers an ERROR changes nothing but what told() tells"})
  static void promise26PartedChangesNothingButTheTrace() {
    for (int kind = 0; kind <= 6; kind++) {
      int km = 10 * kind + 5;
      Made made = () -> {
        WrongCoats x = full();
        x.coat(km, -1);
        x.voice(5, 3, 1);
        return x;
      };
      refused(PARTED, made, x -> x.voice(5, 3, 8));
    }
  }

  @Says("Promise 26: A VOICE of a COAT: any number.")
  static void promise26AnswersThatLookLikeErrors() {
    for (int v : new int[] {LOW, BEYOND, NONE, STATE, FULL, KIND, PARTED}) {
      WrongCoats x = one(0, 0);
      due(x.voice(0, 0, v), v);
      for (int k = 1; k <= 6; k++) {
        due(x.told(k), 0);
      }
      trace(x, 10);
    }
  }

  // ---- Terms: BODIES, with ints that wrap

  @Says({"Terms: with a number x (ints that wrap)", "Terms: BODIES: Coat: 10 hangs: x + k."})
  static void termsBody10Wraps() {
    due(voice(6, 0, 0, MOST_INT - 6), MOST_INT);
    due(voice(6, 0, 0, MOST_INT - 5), LEAST_INT);
    due(voice(0, 9, 0, MOST_INT), MOST_INT);
    due(voice(0, 0, 0, LEAST_INT), LEAST_INT);
    due(voice(6, 0, 0, -6), 0);
  }

  @Says({"Terms: with a number x (ints that wrap)", "Terms: 11 keeps: hangs(x) * 2."})
  static void termsBody11Wraps() {
    due(voice(0, 0, 1, QUARTER - 1), MOST_INT - 1);
    due(voice(0, 0, 1, QUARTER), LEAST_INT);
    due(voice(0, 0, 1, -QUARTER), LEAST_INT);
    due(voice(0, 0, 1, -QUARTER - 1), MOST_INT - 1);
    due(voice(0, 0, 1, LEAST_INT), 0);
  }

  @Says({"Terms: with a number x (ints that wrap)", "Terms: 12 returns: keeps(x) - m."})
  static void termsBody12Wraps() {
    due(voice(0, 9, 2, -QUARTER), MOST_INT - 8);
    due(voice(0, 0, 2, -QUARTER), LEAST_INT);
    due(voice(0, 9, 2, 0), -9);
  }

  @Says({"Terms: 13 parts: x by (m - k), cut", "Terms: Quotients are cut toward 0."})
  static void termsBody13CutsAndWraps() {
    due(voice(0, 1, 3, LEAST_INT), LEAST_INT);
    due(voice(1, 0, 3, LEAST_INT), LEAST_INT);
    due(voice(1, 0, 3, MOST_INT), -MOST_INT);
    due(voice(0, 2, 3, 7), 3);
    due(voice(0, 2, 3, -7), -3);
    due(voice(2, 0, 3, 7), -3);
    due(voice(2, 0, 3, -7), 3);
    due(voice(0, 9, 3, 8), 0);
    due(voice(0, 9, 3, -8), 0);
    due(voice(0, 9, 3, -9), -1);
    due(voice(6, 0, 3, 6), -1);
    due(voice(6, 7, 3, 5), 5);
    due(voice(6, 5, 3, 5), -5);
  }

  @Says({"Terms: with a number x (ints that wrap)", "Terms: Ulster: 20 hangs: super.hangs(x) - 4."})
  static void termsBody20Wraps() {
    due(voice(0, 10, 0, LEAST_INT + 4), LEAST_INT);
    due(voice(0, 10, 0, LEAST_INT + 3), MOST_INT);
    due(voice(4, 10, 0, LEAST_INT), LEAST_INT);
  }

  @Says({"Terms: with a number x (ints that wrap)", "Terms: 21 parts: super.parts(x) + keeps(1)."})
  static void termsBody21Wraps() {
    due(voice(0, 11, 3, LEAST_INT + 6), LEAST_INT);
    due(voice(0, 11, 3, LEAST_INT + 5), MOST_INT);
    due(voice(0, 41, 3, LEAST_INT + 18), LEAST_INT);
    due(voice(0, 41, 3, LEAST_INT + 17), MOST_INT);
    due(voice(1, 10, 3, LEAST_INT), LEAST_INT - 4);
  }

  @Says({"Terms: with a number x (ints that wrap)", "Terms: Cape: 30 keeps: 0 - super.keeps(x)."})
  static void termsBody30Wraps() {
    due(voice(0, 20, 1, QUARTER), LEAST_INT);
    due(voice(0, 20, 1, QUARTER - 1), 1 - MOST_INT);
    due(voice(0, 20, 1, 0), 0);
  }

  @Says({"Terms: Hunting: 40 returns: super.returns(x / 2).", "Terms: Quotients are cut toward 0."})
  static void termsBody40Cuts() {
    due(voice(0, 30, 2, 7), 6);
    due(voice(0, 30, 2, -7), -6);
    due(voice(0, 30, 2, 1), 0);
    due(voice(0, 30, 2, -1), 0);
    due(voice(0, 30, 2, LEAST_INT), LEAST_INT);
    due(voice(0, 30, 2, MOST_INT), MOST_INT - 1);
  }

  @Says({"Terms: with a number x (ints that wrap)", "Terms: Dress: 50 hangs: super.hangs(x) * 3."})
  static void termsBody50Wraps() {
    due(voice(0, 40, 0, 715827886), MOST_INT - 1);
    due(voice(0, 40, 0, 715827887), -MOST_INT);
    due(voice(0, 40, 0, QUARTER + 4), -QUARTER);
    due(voice(0, 40, 0, 4), 0);
  }

  @Says("Terms: 51 returns: super.returns(x) ^ k.")
  static void termsBody51OfAnySign() {
    due(voice(6, 40, 2, -2), 6);
    due(voice(6, 40, 2, -3), -4);
    due(voice(0, 40, 2, 5), 6);
    due(voice(0, 49, 2, 4), -9);
  }

  @Says({"Terms: with a number x (ints that wrap)", "Terms: Cloak: 60 keeps: super.keeps(x + 1)."})
  static void termsBody60Wraps() {
    due(voice(0, 50, 1, MOST_INT), 0);
    due(voice(0, 50, 1, MOST_INT - 1), 2);
    due(voice(0, 50, 1, -1), 0);
  }

  @Says({"Terms: Letter: 70 hangs: 9.", "Terms: 71 keeps: super.keeps(x) + m."})
  static void termsBodies70And71ByAnyX() {
    for (int x : new int[] {0, LEAST_INT, MOST_INT}) {
      due(voice(6, 69, 0, x), 9);
      due(voice(6, 60, 1, x), 18);
      due(voice(6, 69, 1, x), 27);
      due(voice(6, 69, 2, x), 18);
    }
  }

  // ---- promise 27: body

  @Says("Promise 27: NONE: there is none such.")
  static void promise27NoneOfNoSuchBody() {
    due(full().count(6), 6);
    due(taken(Edges::full, x -> x.body(0)), 51);
    due(taken(Edges::full, x -> x.body(5)), 10);
    for (int i : new int[] {6, -1, 29, 30, LEAST_INT, MOST_INT}) {
      refused(NONE, Edges::full, x -> x.body(i));
    }
  }

  @Says("Promise 27: NONE: there is none such.")
  static void promise27NoneWhenTheTraceIsEmpty() {
    refused(NONE, WrongCoats::new, x -> x.body(0));
    refused(NONE, () -> house(7, 7), x -> x.body(0));
    refused(NONE, () -> house(7, 7), x -> x.body(-1));
    due(new WrongCoats().count(6), 0);
  }

  @Says("Terms: THE TRACE: the numbers of BODIES of the latest voice(), as they began")
  static void promise27OnlyOfTheLatestVoice() {
    WrongCoats x = full();
    trace(x, 51, 12, 11, 50, 20, 10);
    x.become(0, 60);
    due(x.voice(0, 0, 1), 9);
    trace(x, 70);
    x.voice(0, 1, 1);
    trace(x, 71, 11, 70);
    x.voice(0, 0, 1);
    trace(x, 70);
  }

  @Says("Terms: hangs(..) is the BODY of its KIND, or of the next KIND above that has one")
  static void termsBodyOfItsKindOrOfTheNextAbove() {
    int[][][] bodies = {
      {{10}, {11, 10}, {12, 11, 10}, {13}},
      {{20, 10}, {11, 20, 10}, {12, 11, 20, 10}, {21, 13, 11, 20, 10}},
      {{10}, {30, 11, 10}, {12, 30, 11, 10}, {13}},
      {{10}, {11, 10}, {40, 12, 11, 10}, {13}},
      {{50, 20, 10}, {11, 50, 20, 10}, {51, 12, 11, 50, 20, 10}, {21, 13, 11, 50, 20, 10}},
      {{10}, {60, 30, 11, 10}, {12, 60, 30, 11, 10}, {13}},
      {{70}, {71, 11, 70}, {12, 71, 11, 70}, {13}}
    };
    for (int kind = 0; kind <= 6; kind++) {
      for (int voice = 0; voice <= 3; voice++) {
        WrongCoats x = one(0, 10 * kind + 1);
        x.voice(0, voice, 1);
        trace(x, bodies[kind][voice]);
      }
    }
  }

  // No KIND has a VOICE of more than 6 BODIES, so that no run can come near 30.
  @Says("Terms: the first 30")
  static void termsTheLongestTraceIsBelow30() {
    int longest = 0;
    for (int kind = 0; kind <= 6; kind++) {
      for (int voice = 0; voice <= 3; voice++) {
        WrongCoats x = one(0, 10 * kind + 1);
        x.voice(0, voice, 1);
        longest = Math.max(longest, x.count(6));
      }
    }
    due(longest, 6);
    WrongCoats x = one(0, 41);
    x.voice(0, 3, 1);
    trace(x, 21, 13, 11, 50, 20, 10);
    x.voice(0, 2, 1);
    trace(x, 51, 12, 11, 50, 20, 10);
  }

  @Says("Terms: (what stands left is worked out first)")
  static void termsWhatStandsLeftBeginsFirst() {
    WrongCoats x = one(0, 11);
    due(x.voice(0, 3, 5), 5 - 6);
    trace(x, 21, 13, 11, 20, 10);
  }

  @Says("Terms: that is all that voice() answers then")
  static void promise27TraceOfAVoiceThatParted() {
    for (int kind : new int[] {0, 2, 3, 5, 6}) {
      WrongCoats x = one(0, 10 * kind);
      x.voice(0, 1, 0);
      due(x.voice(0, 3, 0), PARTED);
      trace(x, 13);
    }
    for (int kind : new int[] {1, 4}) {
      WrongCoats x = one(0, 10 * kind);
      x.voice(0, 1, 0);
      due(x.voice(0, 3, 0), PARTED);
      trace(x, 21, 13);
      due(x.voice(0, 0, 4), 0);
    }
  }

  @Says({
    "Promise 26: BEYOND.",
    "Terms: one that answers an ERROR changes nothing but what told() tells, or where told"
  })
  static void promise27TraceStaysWhenAVoiceIsBeyond() {
    WrongCoats x = full();
    due(x.voice(5, 0, 1), BEYOND);
    due(x.voice(0, 4, 1), BEYOND);
    trace(x, 51, 12, 11, 50, 20, 10);
  }

  public static void main(String[] args) throws Exception {
    run(VoicesEdgesTest.class);
  }
}
