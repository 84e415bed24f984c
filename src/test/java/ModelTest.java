import java.util.ArrayList;
import java.util.Arrays;
import java.util.HashMap;
import java.util.List;
import java.util.Map;
import java.util.Random;

/**
 * Random calls, answered by WrongCoats and by a slow model that follows the document's words: all
 * givings and orders are gone through, and a fault is found by asking whether a text goes on.
 */
public final class ModelTest {

  static final class Refusal extends RuntimeException {
    private static final long serialVersionUID = 1L;
    final int k;

    Refusal(int k) {
      super(null, null, false, false);
      this.k = k;
    }
  }

  static void need(boolean holds, int k) {
    if (!holds) {
      throw new Refusal(k);
    }
  }

  /** Whether a whole text is one, by the grammar's lines and sets of ends. */
  static final class Grammar {
    final String text;
    final String names;
    final Map<String, boolean[]> known = new HashMap<>();

    Grammar(String text, String names) {
      this.text = text;
      this.names = names;
    }

    static boolean isText(String text, String names) {
      return new Grammar(text, names).ends("T", 0, 0)[text.length()];
    }

    /** Where a part that begins at a place, with so many of ! and ( open, may end. */
    boolean[] ends(String part, int at, int open) {
      String key = part + at + "," + open;
      if (!known.containsKey(key)) {
        known.put(key, new boolean[text.length() + 1]);
        known.put(key, newEnds(part, at, open));
      }
      return known.get(key);
    }

    boolean[] newEnds(String part, int at, int open) {
      switch (part) {
        case "T":
          return chain("A", "|", at, open);
        case "A":
          return chain("B", "&", at, open);
        case "B":
          return pair(at, open);
        case "S":
          return chain("P", "+-", at, open);
        case "P":
          return chain("Q", "*/%", at, open);
        default:
          return single(at, open);
      }
    }

    boolean[] chain(String of, String signs, int at, int open) {
      boolean[] all = ends(of, at, open).clone();
      for (int i = at; i < text.length(); i++) {
        if (all[i] && signs.indexOf(text.charAt(i)) >= 0) {
          join(all, ends(of, i + 1, open));
        }
      }
      return all;
    }

    boolean[] pair(int at, int open) {
      boolean[] first = ends("S", at, open);
      boolean[] all = first.clone();
      for (int i = at; i < text.length(); i++) {
        if (first[i] && "<=>".indexOf(text.charAt(i)) >= 0) {
          join(all, ends("S", i + 1, open));
        }
      }
      return all;
    }

    boolean[] single(int at, int open) {
      boolean[] all = new boolean[text.length() + 1];
      if (at >= text.length()) {
        return all;
      }
      char c = text.charAt(at);
      for (int n = 1; n <= 4 && at + n <= text.length(); n++) {
        if (text.substring(at, at + n).matches("[0-9]+")) {
          all[at + n] = true;
        }
      }
      if (names.indexOf(c) >= 0) {
        all[at + 1] = true;
      }
      if (c == '!' && open < 5) {
        join(all, ends("Q", at + 1, open + 1));
      }
      if (c == '(' && open < 5) {
        boolean[] inner = ends("T", at + 1, open + 1);
        for (int i = at + 1; i < text.length(); i++) {
          if (inner[i] && text.charAt(i) == ')') {
            all[i + 1] = true;
          }
        }
      }
      return all;
    }

    static void join(boolean[] all, boolean[] more) {
      for (int i = 0; i < all.length; i++) {
        all[i] |= more[i];
      }
    }

    /** Whether a text goes on with these first bytes: an operand and brackets end any. */
    static boolean goesOn(String first, String names) {
      for (String operand : new String[] {"", "0"}) {
        String whole = first + operand;
        for (int brackets = 0; brackets <= 5; brackets++) {
          if (isText(whole, names)) {
            return true;
          }
          whole += ")";
        }
      }
      return false;
    }

    static int fault(String text, String names) {
      if (isText(text, names)) {
        return -1;
      }
      for (int i = 0; i < text.length(); i++) {
        if (!goesOn(text.substring(0, i + 1), names)) {
          return i;
        }
      }
      return text.length();
    }
  }

  /** Works a text out that is known to be one. */
  static final class Sum {
    final String text;
    final String names;
    final int[] values;
    int at = 0;

    Sum(String text, String names, int... values) {
      this.text = text;
      this.names = names;
      this.values = values;
    }

    boolean next(String signs) {
      return at < text.length() && signs.indexOf(text.charAt(at)) >= 0;
    }

    int t() {
      int v = a();
      while (next("|")) {
        at++;
        int w = a();
        v = v != 0 || w != 0 ? 1 : 0;
      }
      return v;
    }

    int a() {
      int v = b();
      while (next("&")) {
        at++;
        int w = b();
        v = v != 0 && w != 0 ? 1 : 0;
      }
      return v;
    }

    int b() {
      int v = s();
      if (next("<=>")) {
        char sign = text.charAt(at++);
        int w = s();
        boolean holds = sign == '<' ? v < w : sign == '=' ? v == w : v > w;
        v = holds ? 1 : 0;
      }
      return v;
    }

    int s() {
      int v = p();
      while (next("+-")) {
        char sign = text.charAt(at++);
        int w = p();
        v = sign == '+' ? v + w : v - w;
      }
      return v;
    }

    int p() {
      int v = q();
      while (next("*/%")) {
        char sign = text.charAt(at++);
        int w = q();
        v = sign == '*' ? v * w : w == 0 ? 0 : sign == '/' ? v / w : v % w;
      }
      return v;
    }

    int q() {
      char c = text.charAt(at++);
      if (c == '!') {
        return q() == 0 ? 1 : 0;
      }
      if (c == '(') {
        int v = t();
        at++;
        return v;
      }
      if (names.indexOf(c) >= 0) {
        return values[names.indexOf(c)];
      }
      int v = c - '0';
      while (next("0123456789")) {
        v = v * 10 + text.charAt(at++) - '0';
      }
      return v;
    }
  }

  static final class Guest {
    int wit, size, smell, has = -1;
  }

  static final class Coat {
    int kind, m, owner;
  }

  static final class Kept {
    List<Guest> guests = new ArrayList<>();
    List<Coat> coats = new ArrayList<>();
    String[] texts = new String[2];
    String tape = "";
    List<Integer> waits = new ArrayList<>();
    int night, glad, z = 1;

    Kept copy() {
      Kept c = new Kept();
      for (Guest g : guests) {
        Guest n = new Guest();
        n.wit = g.wit;
        n.size = g.size;
        n.smell = g.smell;
        n.has = g.has;
        c.guests.add(n);
      }
      for (Coat o : coats) {
        Coat n = new Coat();
        n.kind = o.kind;
        n.m = o.m;
        n.owner = o.owner;
        c.coats.add(n);
      }
      c.texts = texts.clone();
      c.tape = tape;
      c.waits = new ArrayList<>(waits);
      c.night = night;
      c.glad = glad;
      c.z = z;
      return c;
    }
  }

  static final class Model {
    Kept now = new Kept();
    Kept image = null;
    int images = 0;
    int[] told = new int[7];
    int[][] sheets = new int[4][];
    int[] bits = new int[4];
    List<Integer> trace = new ArrayList<>();

    int g() {
      return now.guests.size();
    }

    int c() {
      return now.coats.size();
    }

    boolean isGuest(int i) {
      return i >= 0 && i < g();
    }

    boolean isCoat(int i) {
      return i >= 0 && i < c();
    }

    static int bound(int v, int lo, int hi) {
      return v < lo ? lo : v > hi ? hi : v;
    }

    static String names(int use) {
      return use == 0 ? "gsn" : "dwo";
    }

    int law(int use, int a, int b, int c) {
      String t = now.texts[use];
      int v = t == null ? a : new Sum(t, names(use), a, b, c).t();
      return bound(v, use == 0 ? 0 : -99, 99);
    }

    int suits(Coat c, Guest g, int kind) {
      switch (kind) {
        case 1:
          return suits(c, g, 0) - 5;
        case 2:
          return suits(c, g, 0) + g.wit;
        case 3:
          return g.smell == c.m % 4 ? 30 : 0;
        case 4:
          return suits(c, g, 1) + (now.night % 7 == 5 ? 20 : 0);
        case 5:
          return suits(c, g, 2) - g.smell;
        case 6:
          return suits(c, g, 0) / 2;
        default:
          return 20 - 2 * Math.max(g.size - c.m, c.m - g.size);
      }
    }

    int makes(Coat c, Guest g, int kind) {
      switch (kind) {
        case 1:
          return 2 * makes(c, g, 0);
        case 2:
          return makes(c, g, 0) / 2;
        case 4:
          return makes(c, g, 1) - c.m;
        case 5:
          return makes(c, g, 2) + 3;
        case 6:
          return 30 - makes(c, g, 0);
        default:
          return g.wit + now.night % 3;
      }
    }

    int like(int coat, int guest) {
      Coat c = now.coats.get(coat);
      Guest g = now.guests.get(guest);
      return law(0, suits(c, g, c.kind), g.smell, now.night % 7);
    }

    int done(int coat, int guest) {
      Coat c = now.coats.get(coat);
      Guest g = now.guests.get(guest);
      return law(1, makes(c, g, c.kind), g.wit, c.owner == guest ? 1 : 0);
    }

    int wearer(int coat) {
      for (int i = 0; i < g(); i++) {
        if (coat >= 0 && now.guests.get(i).has == coat) {
          return i;
        }
      }
      return -1;
    }

    int mostLike(int guest, List<Integer> pegs) {
      int found = -1;
      for (int coat : pegs) {
        if (found < 0 || like(coat, guest) > like(found, guest)) {
          found = coat;
        }
      }
      return found;
    }

    List<Integer> pegs() {
      List<Integer> all = new ArrayList<>();
      for (int i = 0; i < c(); i++) {
        if (wearer(i) < 0) {
          all.add(i);
        }
      }
      return all;
    }

    List<Integer> allPegs() {
      List<Integer> all = new ArrayList<>();
      for (int i = 0; i < c(); i++) {
        all.add(i);
      }
      return all;
    }

    void leaveRound(int first) {
      for (int i = 0; i < g(); i++) {
        int who = (first + i) % g();
        if (now.guests.get(who).has < 0) {
          now.guests.get(who).has = mostLike(who, pegs());
        }
      }
    }

    int night() {
      int sum = 0;
      for (int i = 0; i < g(); i++) {
        if (now.guests.get(i).has >= 0) {
          sum += done(now.guests.get(i).has, i);
        }
      }
      for (Guest g : now.guests) {
        g.has = -1;
      }
      now.glad = bound(now.glad + sum, -99999, 99999);
      now.night++;
      return sum;
    }

    int nights(int n, boolean loose) {
      need(n >= 1 && n <= 30, 1);
      need(now.night + n <= 9999, 3);
      int sum = 0;
      for (int i = 0; i < n; i++) {
        int first = 0;
        if (loose && g() > 0) {
          now.z = now.z * 1103515245 + 12345;
          first = (now.z >>> 8) % g();
        }
        leaveRound(first);
        sum += night();
      }
      return sum;
    }

    int bestSum;
    int[] best;

    void givings(int[][] dones, int[] given, int at, int sum) {
      if (at == g()) {
        if (best == null || sum > bestSum) {
          bestSum = sum;
          best = given.clone();
        }
        return;
      }
      for (int coat = 0; coat <= c(); coat++) {
        boolean away = false;
        for (int i = 0; i < at; i++) {
          away |= coat < c() && given[i] == coat;
        }
        if (!away) {
          given[at] = coat < c() ? coat : -1;
          givings(dones, given, at + 1, sum + (coat < c() ? dones[at][coat] : 0));
        }
      }
    }

    int best(int what) {
      need(what >= -1 && what <= 6, 1);
      need(what < g(), 2);
      int[][] dones = new int[g()][c()];
      for (int i = 0; i < g(); i++) {
        for (int j = 0; j < c(); j++) {
          dones[i][j] = done(j, i);
        }
      }
      best = null;
      givings(dones, new int[g()], 0, 0);
      return what < 0 ? bestSum : best[what];
    }

    int orderSum;
    List<Integer> order;

    void orders(List<Integer> gone) {
      if (gone.size() < g()) {
        for (int i = 0; i < g(); i++) {
          if (!gone.contains(i)) {
            List<Integer> more = new ArrayList<>(gone);
            more.add(i);
            orders(more);
          }
        }
        return;
      }
      List<Integer> pegs = allPegs();
      int sum = 0;
      for (int who : gone) {
        int coat = mostLike(who, pegs);
        if (coat >= 0) {
          sum += done(coat, who);
          pegs.remove(Integer.valueOf(coat));
        }
      }
      if (order == null || sum > orderSum) {
        orderSum = sum;
        order = gone;
      }
    }

    int order(int what) {
      need(what >= -1 && what <= 6, 1);
      need(g() < 7, 3);
      need(what < g(), 2);
      order = null;
      orders(new ArrayList<>());
      return what < 0 ? orderSum : order.get(what);
    }

    int[] got(int first) {
      List<Integer> pegs = allPegs();
      int[] got = new int[g()];
      for (int i = 0; i < g(); i++) {
        int who = (first + i) % g();
        got[who] = mostLike(who, pegs);
        pegs.remove(Integer.valueOf(got[who]));
      }
      return got;
    }

    int odds(int guest, int part) {
      need(isGuest(guest) && (part == 0 || part == 1), 1);
      int own = 0;
      for (int first = 0; first < g(); first++) {
        int coat = got(first)[guest];
        own += coat >= 0 && now.coats.get(coat).owner == guest ? 1 : 0;
      }
      int above = own;
      int below = g();
      for (int by = 7; by >= 2; by--) {
        while (above % by == 0 && below % by == 0) {
          above /= by;
          below /= by;
        }
      }
      return part == 0 ? above : below;
    }

    boolean isSheet(int s) {
      return s >= 0 && s < 4;
    }

    int rightOnes(int[] has, int[] numbers) {
      int n = 0;
      while (n < numbers.length && n < has.length && has[n] == numbers[n]) {
        n++;
      }
      return n;
    }

    int fits(int sheet, int what) {
      need(isSheet(sheet) && (what == 0 || what == 1), 1);
      need(sheets[sheet] != null, 2);
      int set = 0;
      int least = -1;
      for (int first = g() - 1; first >= 0; first--) {
        if (rightOnes(got(first), sheets[sheet]) == sheets[sheet].length) {
          set += 1 << first;
          least = first;
        }
      }
      need(what == 0 || least >= 0, 2);
      return what == 0 ? set : least;
    }

    static final int[] ABOVE = {-1, 0, 0, 0, 1, 2, 0};

    /** Each body by its kind's own name, as a class with overriding methods would have it. */
    int hangs(int of, int kind, int k, int m, int x) {
      switch (of) {
        case 1:
          trace.add(20);
          return hangs(0, kind, k, m, x) - 4;
        case 4:
          trace.add(50);
          return hangs(1, kind, k, m, x) * 3;
        case 6:
          trace.add(70);
          return 9;
        case 0:
          trace.add(10);
          return x + k;
        default:
          return hangs(ABOVE[of], kind, k, m, x);
      }
    }

    int keeps(int of, int kind, int k, int m, int x) {
      switch (of) {
        case 2:
          trace.add(30);
          return -keeps(0, kind, k, m, x);
        case 5:
          trace.add(60);
          return keeps(2, kind, k, m, x + 1);
        case 6:
          trace.add(71);
          return keeps(0, kind, k, m, x) + m;
        case 0:
          trace.add(11);
          return hangs(kind, kind, k, m, x) * 2;
        default:
          return keeps(ABOVE[of], kind, k, m, x);
      }
    }

    int returns(int of, int kind, int k, int m, int x) {
      switch (of) {
        case 3:
          trace.add(40);
          return returns(0, kind, k, m, x / 2);
        case 4:
          trace.add(51);
          return returns(1, kind, k, m, x) ^ k;
        case 0:
          trace.add(12);
          return keeps(kind, kind, k, m, x) - m;
        default:
          return returns(ABOVE[of], kind, k, m, x);
      }
    }

    int parts(int of, int kind, int k, int m, int x) {
      switch (of) {
        case 1:
          trace.add(21);
          return parts(0, kind, k, m, x) + keeps(kind, kind, k, m, 1);
        case 0:
          trace.add(13);
          need(m != k, 6);
          return x / (m - k);
        default:
          return parts(ABOVE[of], kind, k, m, x);
      }
    }

    int voice(int coat, int voice, int x) {
      need(isCoat(coat) && voice >= 0 && voice < 4, 1);
      trace = new ArrayList<>();
      int kind = now.coats.get(coat).kind;
      int m = now.coats.get(coat).m;
      switch (voice) {
        case 0:
          return hangs(kind, kind, coat, m, x);
        case 1:
          return keeps(kind, kind, coat, m, x);
        case 2:
          return returns(kind, kind, coat, m, x);
        default:
          return parts(kind, kind, coat, m, x);
      }
    }

    int move(int s, int i, int o, int j, int n) {
      need(isSheet(s) && isSheet(o), 1);
      need(sheets[s] != null && sheets[o] != null, 2);
      need(bits[s] == bits[o], 5);
      need(n >= 0 && i >= 0 && j >= 0, 1);
      need((long) i + n <= sheets[s].length && (long) j + n <= sheets[o].length, 1);
      int[] were = sheets[s].clone();
      for (int q = 0; q < n; q++) {
        sheets[o][j + q] = were[i + q];
      }
      return n;
    }

    int wearsAll(int s) {
      need(isSheet(s), 1);
      need(sheets[s] != null, 2);
      for (Guest g : now.guests) {
        g.has = -1;
      }
      int n = 0;
      for (int coat : sheets[s]) {
        if (n >= g() || coat != -1 && (!isCoat(coat) || wearer(coat) >= 0)) {
          break;
        }
        now.guests.get(n).has = coat;
        n++;
      }
      return n;
    }

    int guestCall(String call, int[] a) {
      switch (call) {
        case "guest": {
          need(a[0] >= 0 && a[0] < 10 && a[1] >= 0 && a[1] < 10 && a[2] >= 0 && a[2] < 4, 1);
          need(g() < 7, 4);
          Guest n = new Guest();
          n.wit = a[0];
          n.size = a[1];
          n.smell = a[2];
          now.guests.add(n);
          return g() - 1;
        }
        case "guestIs": {
          need(isGuest(a[0]) && a[1] >= 0 && a[1] < 5, 1);
          Guest n = now.guests.get(a[0]);
          int made = n.has < 0 ? 0 : done(n.has, a[0]);
          return new int[] {n.wit, n.size, n.smell, n.has, made}[a[1]];
        }
        case "coat": {
          need(a[0] >= 0 && a[0] < 70 && (a[1] == -1 || isGuest(a[1])), 1);
          need(c() < 7, 4);
          Coat n = new Coat();
          n.kind = a[0] / 10;
          n.m = a[0] % 10;
          n.owner = a[1];
          now.coats.add(n);
          return c() - 1;
        }
        case "coatIs": {
          need(isCoat(a[0]) && a[1] >= 0 && a[1] < 4, 1);
          Coat n = now.coats.get(a[0]);
          return new int[] {n.kind, n.m, n.owner, wearer(a[0])}[a[1]];
        }
        case "become": {
          need(isCoat(a[0]) && a[1] >= 0 && a[1] < 70, 1);
          Coat n = now.coats.get(a[0]);
          int was = n.kind;
          n.kind = a[1] / 10;
          n.m = a[1] % 10;
          return was;
        }
        case "as": {
          need(isCoat(a[0]) && a[1] >= 0 && a[1] < 7, 1);
          int kind = now.coats.get(a[0]).kind;
          while (kind >= 0 && kind != a[1]) {
            kind = ABOVE[kind];
          }
          need(kind >= 0, 5);
          return now.coats.get(a[0]).m;
        }
        case "like":
          need(isCoat(a[0]) && isGuest(a[1]), 1);
          return like(a[0], a[1]);
        case "done":
          need(isCoat(a[0]) && isGuest(a[1]), 1);
          return done(a[0], a[1]);
        case "wears": {
          need(isGuest(a[0]) && (a[1] == -1 || isCoat(a[1])), 1);
          need(wearer(a[1]) == -1 || wearer(a[1]) == a[0], 3);
          int wore = now.guests.get(a[0]).has;
          now.guests.get(a[0]).has = a[1];
          return wore;
        }
        default: {
          need(isGuest(a[0]), 1);
          need(now.guests.get(a[0]).has == -1, 3);
          int coat = mostLike(a[0], pegs());
          need(coat >= 0, 2);
          now.guests.get(a[0]).has = coat;
          return coat;
        }
      }
    }

    int feed(long word, int n) {
      need(n >= 1 && n <= 8, 1);
      need(now.tape.length() + n <= 60, 4);
      for (int i = 0; i < n; i++) {
        now.tape += (char) (word & 255);
        word >>= 8;
      }
      return now.tape.length();
    }

    int textCall(String call, int[] a) {
      need(a[0] == 0 || a[0] == 1, 1);
      switch (call) {
        case "text": {
          String t = now.tape;
          now.tape = "";
          int fault = Grammar.fault(t, names(a[0]));
          if (fault >= 0) {
            return -10 - fault;
          }
          now.texts[a[0]] = t;
          return 1;
        }
        case "untell": {
          int was = now.texts[a[0]] == null ? 0 : 1;
          now.texts[a[0]] = null;
          return was;
        }
        default:
          return law(a[0], a[1], a[2], a[3]);
      }
    }

    int sheetCall(String call, int[] a) {
      need(isSheet(a[0]), 1);
      if (call.equals("sheet")) {
        need(a[1] == 0 || a[1] == 8 || a[1] == 16 || a[1] == 32, 1);
        need(a[1] == 0 || a[2] >= 0, 3);
        need(a[1] == 0 || a[2] <= 24, 1);
        bits[a[0]] = a[1];
        sheets[a[0]] = a[1] == 0 ? null : new int[a[2]];
        return 1;
      }
      int[] rows = sheets[a[0]];
      need(rows != null, 2);
      switch (call) {
        case "put": {
          need(a[1] >= 0 && a[1] < rows.length, 1);
          int drop = 32 - bits[a[0]];
          rows[a[1]] = a[2] << drop >> drop;
          return 1;
        }
        case "judge": {
          int[] has = new int[g()];
          for (int i = 0; i < g(); i++) {
            has[i] = now.guests.get(i).has;
          }
          return rightOnes(has, rows);
        }
        default:
          return wearsAll(a[0]);
      }
    }

    int left(int what) {
      need(what == 0 || what == 1, 1);
      int set = 0;
      for (int coat : pegs()) {
        set += 1 << coat;
      }
      return what == 0 ? set : pegs().size();
    }

    int right() {
      int own = 0;
      for (int i = 0; i < g(); i++) {
        int has = now.guests.get(i).has;
        own += has >= 0 && now.coats.get(has).owner == i ? 1 : 0;
      }
      return own;
    }

    int check() {
      List<Integer> asked = now.waits;
      now.waits = new ArrayList<>();
      for (int i = 0; i < asked.size(); i++) {
        if (i >= c() || now.coats.get(i).owner != asked.get(i)) {
          return 1 + i;
        }
      }
      return 0;
    }

    int count(int what) {
      need(what >= 0 && what < 8, 1);
      int[] all = {
        g(), c(), now.night, now.glad, now.tape.length(), now.waits.size(),
        Math.min(30, trace.size()), now.z
      };
      return all[what];
    }

    int otherCall(String call, int[] a) {
      switch (call) {
        case "night":
          need(now.night < 9999, 3);
          return night();
        case "nights":
          return nights(a[0], false);
        case "loose":
          return nights(a[0], true);
        case "seed": {
          int was = now.z;
          now.z = a[0];
          return was;
        }
        case "best":
          return best(a[0]);
        case "order":
          return order(a[0]);
        case "right":
          return right();
        case "left":
          return left(a[0]);
        case "odds":
          return odds(a[0], a[1]);
        case "fits":
          return fits(a[0], a[1]);
        case "voice":
          return voice(a[0], a[1], a[2]);
        case "body":
          need(a[0] >= 0 && a[0] < Math.min(30, trace.size()), 2);
          return trace.get(a[0]);
        case "move":
          return move(a[0], a[1], a[2], a[3], a[4]);
        case "image":
          image = now.copy();
          return ++images;
        case "restore":
          need(image != null, 2);
          now = image.copy();
          return now.night;
        case "tell":
          need(now.waits.size() < 24, 4);
          now.waits.add(a[0]);
          return now.waits.size();
        case "check":
          return check();
        case "count":
          return count(a[0]);
        default:
          need(a[0] >= 1 && a[0] <= 6, 1);
          return told[a[0]];
      }
    }

    int answer(String call, long word, int[] a) {
      try {
        if (call.equals("feed")) {
          return feed(word, a[0]);
        }
        if (Arrays.asList(TEXT_CALLS).contains(call)) {
          return textCall(call, a);
        }
        if (Arrays.asList(GUEST_CALLS).contains(call)) {
          return guestCall(call, a);
        }
        if (Arrays.asList(SHEET_CALLS).contains(call)) {
          return sheetCall(call, a);
        }
        return otherCall(call, a);
      } catch (Refusal r) {
        told[r.k]++;
        return -1000000000 - r.k;
      }
    }
  }

  static final String[] TEXT_CALLS = {"text", "untell", "law"};
  static final String[] GUEST_CALLS = {
    "guest", "guestIs", "coat", "coatIs", "become", "as", "like", "done", "wears", "leaves"
  };
  static final String[] SHEET_CALLS = {"sheet", "put", "judge", "wearsAll"};

  /** Calls as often as they stand here. */
  static final String[] ALL =
      ("guest guest guestIs guestIs coat coat coatIs coatIs become become as like like done done"
              + " wears wears leaves leaves leaves leaves feed law night nights loose loose seed best"
              + " order right left left odds odds fits fits voice voice voice voice body body sheet"
              + " sheet put put put put put move wearsAll wearsAll judge judge image restore tell tell"
              + " check count count count told TEXT TEXT TEXT untell GOT FILL")
          .split(" ");

  static int real(WrongCoats x, String call, long word, int[] a) {
    switch (call) {
      case "guest":
        return x.guest(a[0], a[1], a[2]);
      case "guestIs":
        return x.guestIs(a[0], a[1]);
      case "coat":
        return x.coat(a[0], a[1]);
      case "coatIs":
        return x.coatIs(a[0], a[1]);
      case "become":
        return x.become(a[0], a[1]);
      case "as":
        return x.as(a[0], a[1]);
      case "like":
        return x.like(a[0], a[1]);
      case "done":
        return x.done(a[0], a[1]);
      case "wears":
        return x.wears(a[0], a[1]);
      case "leaves":
        return x.leaves(a[0]);
      case "feed":
        return x.feed(word, a[0]);
      case "text":
        return x.text(a[0]);
      case "untell":
        return x.untell(a[0]);
      case "law":
        return x.law(a[0], a[1], a[2], a[3]);
      case "night":
        return x.night();
      case "nights":
        return x.nights(a[0]);
      case "loose":
        return x.loose(a[0]);
      case "seed":
        return x.seed(a[0]);
      case "best":
        return x.best(a[0]);
      case "order":
        return x.order(a[0]);
      default:
        return realOther(x, call, a);
    }
  }

  static int realOther(WrongCoats x, String call, int[] a) {
    switch (call) {
      case "right":
        return x.right();
      case "left":
        return x.left(a[0]);
      case "odds":
        return x.odds(a[0], a[1]);
      case "fits":
        return x.fits(a[0], a[1]);
      case "voice":
        return x.voice(a[0], a[1], a[2]);
      case "body":
        return x.body(a[0]);
      case "sheet":
        return x.sheet(a[0], a[1], a[2]);
      case "put":
        return x.put(a[0], a[1], a[2]);
      case "move":
        return x.move(a[0], a[1], a[2], a[3], a[4]);
      case "wearsAll":
        return x.wearsAll(a[0]);
      case "judge":
        return x.judge(a[0]);
      case "image":
        return x.image();
      case "restore":
        return x.restore();
      case "tell":
        return x.tell(a[0]);
      case "check":
        return x.check();
      case "count":
        return x.count(a[0]);
      case "told":
        return x.told(a[0]);
      default:
        throw new IllegalStateException(call);
    }
  }

  static final class Pair {
    /** What later calls answer is free. */
    static final int MOST_CALLS = 512;

    final WrongCoats x = new WrongCoats();
    final Model model = new Model();
    final Random random;
    final List<String> lines = new ArrayList<>();
    boolean same = true;
    int calls = 0;

    Pair(long seed) {
      random = new Random(seed);
    }

    boolean goesOn() {
      return same && calls < MOST_CALLS;
    }

    void call(String call, long word, int... a) {
      if (!goesOn()) {
        return;
      }
      calls++;
      int due = model.answer(call, word, a);
      int got;
      try {
        got = real(x, call, word, a);
      } catch (RuntimeException e) {
        lines.add(call + Arrays.toString(a) + " threw " + e);
        same = false;
        return;
      }
      lines.add(call + Arrays.toString(a) + (word == 0 ? "" : " word " + word) + " -> " + got);
      if (got != due) {
        lines.add("due was " + due);
        same = false;
      }
    }

    int pick(int... of) {
      return of[random.nextInt(of.length)];
    }

    int small(int most) {
      if (random.nextInt(25) == 0) {
        return pick(-2, -1, most + 1, Integer.MIN_VALUE, Integer.MAX_VALUE, -9, 60);
      }
      return random.nextInt(most + 1);
    }

    int near(int size) {
      return random.nextInt(12) == 0 ? small(7) : random.nextInt(Math.max(1, size));
    }

    int any() {
      return random.nextBoolean() ? random.nextInt(40) - 20 : random.nextInt();
    }

    String part(int depth, String names) {
      int roll = random.nextInt(depth > 4 ? 5 : 9);
      if (roll < 3) {
        return "" + names.charAt(random.nextInt(3));
      }
      if (roll < 5) {
        return "" + random.nextInt(pick(10, 100, 1000, 10000, 3));
      }
      if (roll < 7) {
        return "!" + part(depth + 1, names);
      }
      return "(" + whole(depth + 1, names) + ")";
    }

    String whole(int depth, String names) {
      StringBuilder b = new StringBuilder(part(depth, names));
      boolean compared = false;
      for (int i = random.nextInt(5); i > 0; i--) {
        char sign = "|&<=>+-*/%*+-".charAt(random.nextInt(13));
        if ("<=>".indexOf(sign) >= 0) {
          if (compared && random.nextInt(10) > 0) {
            continue;
          }
          compared = true;
        }
        if (sign == '|' || sign == '&') {
          compared = false;
        }
        b.append(sign).append(part(depth, names));
      }
      return b.toString();
    }

    void feedText(String text) {
      int i = 0;
      while (i < text.length()) {
        int n = Math.min(1 + random.nextInt(8), text.length() - i);
        long word = n < 8 ? random.nextLong() << (8 * n) : 0;
        for (int q = 0; q < n; q++) {
          word |= (long) (text.charAt(i + q) & 255) << (8 * q);
        }
        call("feed", word, n);
        i += n;
      }
    }

    void tellText() {
      int use = random.nextInt(2);
      String names = Model.names(use);
      String text = whole(0, names);
      if (random.nextInt(3) == 0) {
        int at = random.nextInt(text.length() + 1);
        char sign = "|&<=>+-*/%!()gsndwo019 \u00e9\0".charAt(random.nextInt(24));
        text = text.substring(0, at) + sign + text.substring(random.nextBoolean() ? at
            : Math.min(text.length(), at + 1));
      }
      if (random.nextInt(8) == 0) {
        text = text.substring(0, random.nextInt(text.length() + 1));
      }
      if (random.nextInt(40) > 0 && model.now.tape.length() > 0) {
        call("text", 0, 2);
        call("text", 0, random.nextInt(2));
      }
      feedText(text.length() > 60 ? text.substring(0, 60) : text);
      call("text", 0, random.nextInt(30) == 0 ? 1 - use : use);
    }

    /** A sheet that tells what they got from one on, mostly, so that some fit. */
    void tellGot() {
      if (model.g() == 0) {
        return;
      }
      int s = random.nextInt(4);
      int[] got = model.got(random.nextInt(model.g()));
      int n = random.nextInt(3) > 0 ? got.length : random.nextInt(got.length + 2);
      call("sheet", 0, s, pick(8, 16, 32), n);
      for (int i = 0; i < n; i++) {
        int number = i < got.length ? got[i] : pick(-1, 0);
        call("put", 0, s, i, random.nextInt(15) == 0 ? any() : number);
      }
      call("fits", 0, s, 0);
      call("fits", 0, s, 1);
      if (random.nextBoolean()) {
        call("wearsAll", 0, s);
        call("judge", 0, s);
        call("right", 0);
      }
    }

    void fill() {
      while (goesOn() && model.g() < 7 && random.nextInt(5) > 0) {
        call("guest", 0, random.nextInt(10), random.nextInt(10), random.nextInt(4));
      }
      while (goesOn() && model.c() < 7 && random.nextInt(6) > 0) {
        call("coat", 0, random.nextInt(70), random.nextInt(model.g() + 1) - 1);
      }
    }

    void step(int heavy) {
      String call = ALL[random.nextInt(ALL.length)];
      boolean dear = call.equals("best") && model.g() > 5 || call.equals("order") && model.g() > 4;
      if (dear && random.nextInt(heavy) > 0) {
        return;
      }
      switch (call) {
        case "TEXT":
          tellText();
          break;
        case "GOT":
          tellGot();
          break;
        case "FILL":
          fill();
          break;
        case "feed":
          if (random.nextInt(4) == 0) {
            call(call, random.nextLong(), small(8));
          }
          break;
        default:
          call(call, 0, arguments(call));
      }
    }

    int[] arguments(String call) {
      switch (call) {
        case "guest":
          return new int[] {small(9), small(9), small(3)};
        case "guestIs":
          return new int[] {near(model.g()), small(4)};
        case "coat":
          return new int[] {small(69), small(model.g()) - 1};
        case "coatIs":
          return new int[] {near(model.c()), small(3)};
        case "become":
          return new int[] {near(model.c()), small(69)};
        case "as":
          return new int[] {near(model.c()), small(6)};
        case "like":
        case "done":
          return new int[] {near(model.c()), near(model.g())};
        case "wears":
          return new int[] {near(model.g()), near(model.c() + 1) - 1};
        case "leaves":
          return new int[] {near(model.g())};
        case "law":
          return new int[] {small(1), any(), any(), any()};
        case "untell":
          return new int[] {small(1)};
        case "nights":
        case "loose":
          return new int[] {random.nextInt(3) == 0 ? small(31) : 1 + random.nextInt(3)};
        case "seed":
        case "tell":
          return new int[] {random.nextInt(4) == 0 ? any() : random.nextInt(8) - 1};
        case "best":
        case "order":
          return new int[] {small(7) - 1};
        default:
          return argumentsOfOthers(call);
      }
    }

    int[] argumentsOfOthers(String call) {
      switch (call) {
        case "left":
          return new int[] {small(1)};
        case "odds":
          return new int[] {near(model.g()), small(1)};
        case "fits":
          return new int[] {small(3), small(1)};
        case "voice":
          return new int[] {near(model.c()), small(3), any()};
        case "body":
          return new int[] {small(6)};
        case "sheet":
          return new int[] {small(3), pick(0, 8, 16, 32, 8, 16, 7), small(random.nextInt(26))};
        case "put":
          return new int[] {small(3), small(7), random.nextInt(3) > 0 ? small(8) - 1 : any()};
        case "move":
          return new int[] {small(3), small(8), small(3), small(8), small(6)};
        case "wearsAll":
        case "judge":
          return new int[] {small(3)};
        case "count":
          return new int[] {small(7)};
        case "told":
          return new int[] {1 + small(6)};
        default:
          return new int[0];
      }
    }

    /** Everything that can be seen without changing it. */
    void look() {
      for (int i = 0; i < 8; i++) {
        call("count", 0, i);
      }
      for (int i = 0; i < model.g(); i++) {
        call("guestIs", 0, i, 3);
        call("guestIs", 0, i, 4);
      }
      for (int i = 0; i < model.c(); i++) {
        call("coatIs", 0, i, 0);
        call("coatIs", 0, i, 1);
        call("coatIs", 0, i, 2);
      }
      for (int k = 1; k <= 6; k++) {
        call("told", 0, k);
      }
    }
  }

  static boolean runOne(long seed, int heavy) {
    Pair p = new Pair(seed);
    if (p.random.nextInt(4) > 0) {
      p.fill();
    }
    if (p.random.nextInt(12) == 0) {
      for (int i = 0; i < 333; i++) {
        p.call("nights", 0, 30);
      }
    }
    for (int i = 0; i < 400 && p.goesOn(); i++) {
      p.step(heavy);
      if (i % 40 == 39) {
        p.look();
      }
    }
    if (!p.same) {
      System.out.println("run " + seed + " differs:");
      int from = Math.max(0, p.lines.size() - 40);
      for (String line : p.lines.subList(from, p.lines.size())) {
        System.out.println("  " + line);
      }
    }
    return p.same;
  }

  public static void main(String[] args) {
    int runs = args.length > 0 ? Integer.parseInt(args[0]) : 700;
    long first = args.length > 1 ? Long.parseLong(args[1]) : 1;
    int differ = 0;
    for (int i = 0; i < runs && differ < 3; i++) {
      if (!runOne(first + i, 8)) {
        differ++;
      }
    }
    System.out.println(differ == 0 ? runs + " runs as the model has them" : "runs differ");
    if (differ != 0) {
      System.exit(1);
    }
  }
}
