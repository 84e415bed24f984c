/**
 * Nights at a restaurant where one small boy gives the coats back by likeness.
 *
 * <p>All rows are made when the object is made and used again by every call, because all calls of
 * one run share one small room; no call makes an object.
 */
public final class WrongCoats {
  private static final int LOW = -1000000000;
  private static final int BEYOND = 1;
  private static final int NONE = 2;
  private static final int STATE = 3;
  private static final int FULL = 4;
  private static final int KIND = 5;
  private static final int PARTED = 6;

  private static final int MOST = 7;
  private static final int NOBODY = -1;
  private static final int USES = 2;
  private static final int NAMES = 3;
  private static final int TAPE = 60;
  private static final int DEEPEST_TEXT = 5;
  private static final int SHEETS = 4;
  private static final int MOST_NUMBERS = 24;
  private static final int LAST_NIGHT = 9999;
  private static final int MOST_NIGHTS = 30;
  private static final int MOST_GLAD = 99999;
  private static final int MOST_IN_ORDER = 6;

  private static final int KINDS = 7;
  private static final int VOICES = 4;
  private static final int HANGS = 0;
  private static final int KEEPS = 1;
  private static final int RETURNS = 2;
  private static final int PARTS = 3;
  private static final int MOST_TRACED = 30;
  private static final int DEEPEST_VOICE = 40;

  /** The kind right above each kind; -1 above COAT. */
  private static final int[] ABOVE = {-1, 0, 0, 0, 1, 2, 0};

  /** The number of the body that a kind has of each of the four voices; 0: it has none. */
  private static final int[] BODIES = {
    10, 11, 12, 13,
    20, 0, 0, 21,
    0, 30, 0, 0,
    0, 0, 40, 0,
    50, 0, 51, 0,
    0, 60, 0, 0,
    70, 71, 0, 0
  };

  /** The names of the use 0, then those of the use 1. */
  private static final char[] NAME_SIGNS = {'g', 's', 'n', 'd', 'w', 'o'};

  private final House house = new House();
  private final House kept = new House();
  private final Boy boy = new Boy();
  private final Thought thought = new Thought();
  private final Reader reader = new Reader();
  private final Speaker speaker = new Speaker();
  private final Sheet[] sheets = {new Sheet(), new Sheet(), new Sheet(), new Sheet()};
  private final int[] refused = new int[PARTED + 1];
  private int images;

  public WrongCoats() {}

  // ---- guests, coats

  public int guest(int wit, int size, int smell) {
    if (!within(wit, 0, 9) || !within(size, 0, 9) || !within(smell, 0, 3)) {
      return refuse(BEYOND);
    }
    if (house.guests >= MOST) {
      return refuse(FULL);
    }
    return house.addGuest(wit, size, smell);
  }

  public int guestIs(int guest, int what) {
    if (!house.hasGuest(guest)) {
      return refuse(BEYOND);
    }
    switch (what) {
      case 0:
        return house.wit[guest];
      case 1:
        return house.size[guest];
      case 2:
        return house.smell[guest];
      case 3:
        return house.has[guest];
      case 4:
        return house.makingNow(guest);
      default:
        return refuse(BEYOND);
    }
  }

  public int coat(int km, int owner) {
    if (!isKindAndMark(km) || !house.hasGuestOrNobody(owner)) {
      return refuse(BEYOND);
    }
    if (house.coats >= MOST) {
      return refuse(FULL);
    }
    return house.addCoat(km / 10, km % 10, owner);
  }

  public int coatIs(int coat, int what) {
    if (!house.hasCoat(coat)) {
      return refuse(BEYOND);
    }
    switch (what) {
      case 0:
        return house.kind[coat];
      case 1:
        return house.mark[coat];
      case 2:
        return house.owner[coat];
      case 3:
        return house.wearerOf(coat);
      default:
        return refuse(BEYOND);
    }
  }

  public int become(int coat, int km) {
    if (!house.hasCoat(coat) || !isKindAndMark(km)) {
      return refuse(BEYOND);
    }
    int was = house.kind[coat];
    house.kind[coat] = km / 10;
    house.mark[coat] = km % 10;
    return was;
  }

  public int as(int coat, int kind) {
    if (!house.hasCoat(coat) || !within(kind, 0, KINDS - 1)) {
      return refuse(BEYOND);
    }
    if (!isOrIsUnder(house.kind[coat], kind)) {
      return refuse(KIND);
    }
    return house.mark[coat];
  }

  public int like(int coat, int guest) {
    if (!house.hasCoat(coat) || !house.hasGuest(guest)) {
      return refuse(BEYOND);
    }
    return house.liking(coat, guest);
  }

  public int done(int coat, int guest) {
    if (!house.hasCoat(coat) || !house.hasGuest(guest)) {
      return refuse(BEYOND);
    }
    return house.making(coat, guest);
  }

  public int wears(int guest, int coat) {
    if (!house.hasGuest(guest) || !house.hasCoatOrNone(coat)) {
      return refuse(BEYOND);
    }
    int wearer = house.wearerOf(coat);
    if (wearer != NOBODY && wearer != guest) {
      return refuse(STATE);
    }
    int wore = house.has[guest];
    house.has[guest] = coat;
    return wore;
  }

  public int leaves(int guest) {
    if (!house.hasGuest(guest)) {
      return refuse(BEYOND);
    }
    if (house.has[guest] != NOBODY) {
      return refuse(STATE);
    }
    if (house.hanging() == 0) {
      return refuse(NONE);
    }
    return letLeave(guest);
  }

  // ---- texts

  public int feed(long word, int n) {
    if (!within(n, 1, 8)) {
      return refuse(BEYOND);
    }
    if (house.tape.size + n > TAPE) {
      return refuse(FULL);
    }
    for (int i = 0; i < n; i++) {
      house.tape.push((int) (word >>> (8 * i)) & 255);
    }
    return house.tape.size;
  }

  public int text(int use) {
    if (!isUse(use)) {
      return refuse(BEYOND);
    }
    int fault = reader.read(house.tape, use);
    house.tape.size = 0;
    if (fault != Reader.NO_FAULT) {
      return -10 - fault;
    }
    house.laws[use].standAs(reader.code);
    return 1;
  }

  public int untell(int use) {
    if (!isUse(use)) {
      return refuse(BEYOND);
    }
    int was = house.laws[use].stands ? 1 : 0;
    house.laws[use].stands = false;
    return was;
  }

  public int law(int use, int a, int b, int c) {
    if (!isUse(use)) {
      return refuse(BEYOND);
    }
    return house.laws[use].gives(a, b, c);
  }

  // ---- nights

  public int night() {
    if (house.night >= LAST_NIGHT) {
      return refuse(STATE);
    }
    return house.endNight();
  }

  public int nights(int n) {
    if (!within(n, 1, MOST_NIGHTS)) {
      return refuse(BEYOND);
    }
    if (house.night + n > LAST_NIGHT) {
      return refuse(STATE);
    }
    int together = 0;
    for (int i = 0; i < n; i++) {
      letAllLeaveFrom(0);
      together += house.endNight();
    }
    return together;
  }

  public int loose(int n) {
    if (!within(n, 1, MOST_NIGHTS)) {
      return refuse(BEYOND);
    }
    if (house.night + n > LAST_NIGHT) {
      return refuse(STATE);
    }
    int together = 0;
    for (int i = 0; i < n; i++) {
      letAllLeaveFrom(house.drawnGuest());
      together += house.endNight();
    }
    return together;
  }

  public int seed(int v) {
    int was = house.z;
    house.z = v;
    return was;
  }

  // ---- the best giving, orders

  public int best(int what) {
    if (!within(what, -1, MOST - 1)) {
      return refuse(BEYOND);
    }
    if (what >= house.guests) {
      return refuse(NONE);
    }
    thought.giveBest(house);
    return what < 0 ? thought.bestSum : thought.given[what];
  }

  public int order(int what) {
    if (!within(what, -1, MOST - 1)) {
      return refuse(BEYOND);
    }
    if (house.guests > MOST_IN_ORDER) {
      return refuse(STATE);
    }
    if (what >= house.guests) {
      return refuse(NONE);
    }
    thought.findOrder(house, boy);
    return what < 0 ? thought.orderSum : thought.bestOrder[what];
  }

  public int right() {
    int own = 0;
    for (int g = 0; g < house.guests; g++) {
      if (house.isOwn(house.has[g], g)) {
        own++;
      }
    }
    return own;
  }

  public int left(int what) {
    if (!within(what, 0, 1)) {
      return refuse(BEYOND);
    }
    int pegs = house.hanging();
    return what == 0 ? pegs : Integer.bitCount(pegs);
  }

  public int odds(int guest, int part) {
    if (!house.hasGuest(guest) || !within(part, 0, 1)) {
      return refuse(BEYOND);
    }
    int above = thought.startsWithOwn(house, boy, guest);
    int below = house.guests;
    int divisor = commonDivisor(above, below);
    if (divisor == 0) {
      return 0;
    }
    return part == 0 ? above / divisor : below / divisor;
  }

  public int fits(int sheet, int what) {
    if (!isSheet(sheet) || !within(what, 0, 1)) {
      return refuse(BEYOND);
    }
    if (sheets[sheet].isMissing()) {
      return refuse(NONE);
    }
    int starts = thought.startsThatFit(house, boy, sheets[sheet]);
    if (what == 0) {
      return starts;
    }
    return starts == 0 ? refuse(NONE) : Integer.numberOfTrailingZeros(starts);
  }

  // ---- voices, sheets, images, what is told

  public int voice(int coat, int voice, int x) {
    if (!house.hasCoat(coat) || !within(voice, 0, VOICES - 1)) {
      return refuse(BEYOND);
    }
    int answer = speaker.speak(house.kind[coat], coat, house.mark[coat], voice, x);
    return speaker.parted ? refuse(PARTED) : answer;
  }

  public int body(int i) {
    if (!within(i, 0, speaker.trace.size - 1)) {
      return refuse(NONE);
    }
    return speaker.trace.rows[i];
  }

  public int sheet(int sheet, int bits, int n) {
    boolean known = bits == 0 || bits == 8 || bits == 16 || bits == 32;
    if (!isSheet(sheet) || !known) {
      return refuse(BEYOND);
    }
    if (bits == 0) {
      sheets[sheet].lay(0, 0);
      return 1;
    }
    if (n < 0) {
      return refuse(STATE);
    }
    if (n > MOST_NUMBERS) {
      return refuse(BEYOND);
    }
    sheets[sheet].lay(bits, n);
    return 1;
  }

  public int put(int sheet, int i, int v) {
    if (!isSheet(sheet)) {
      return refuse(BEYOND);
    }
    if (sheets[sheet].isMissing()) {
      return refuse(NONE);
    }
    if (!within(i, 0, sheets[sheet].length - 1)) {
      return refuse(BEYOND);
    }
    sheets[sheet].write(i, v);
    return 1;
  }

  public int move(int sheet, int i, int other, int j, int n) {
    if (!isSheet(sheet) || !isSheet(other)) {
      return refuse(BEYOND);
    }
    Sheet from = sheets[sheet];
    Sheet to = sheets[other];
    if (from.isMissing() || to.isMissing()) {
      return refuse(NONE);
    }
    if (from.bits != to.bits) {
      return refuse(KIND);
    }
    if (!from.holds(i, n) || !to.holds(j, n)) {
      return refuse(BEYOND);
    }
    System.arraycopy(from.numbers, i, to.numbers, j, n);
    return n;
  }

  public int wearsAll(int sheet) {
    if (!isSheet(sheet)) {
      return refuse(BEYOND);
    }
    if (sheets[sheet].isMissing()) {
      return refuse(NONE);
    }
    return house.dressBy(sheets[sheet]);
  }

  public int judge(int sheet) {
    if (!isSheet(sheet)) {
      return refuse(BEYOND);
    }
    if (sheets[sheet].isMissing()) {
      return refuse(NONE);
    }
    return sheets[sheet].rightOnes(house.has, house.guests);
  }

  public int image() {
    kept.copyFrom(house);
    images++;
    return images;
  }

  public int restore() {
    if (images == 0) {
      return refuse(NONE);
    }
    house.copyFrom(kept);
    return house.night;
  }

  public int tell(int v) {
    if (house.waiting.size >= MOST_NUMBERS) {
      return refuse(FULL);
    }
    house.waiting.push(v);
    return house.waiting.size;
  }

  public int check() {
    int asked = house.waiting.size;
    house.waiting.size = 0;
    for (int i = 0; i < asked; i++) {
      if (!house.hasCoat(i) || house.waiting.rows[i] != house.owner[i]) {
        return 1 + i;
      }
    }
    return 0;
  }

  public int count(int what) {
    switch (what) {
      case 0:
        return house.guests;
      case 1:
        return house.coats;
      case 2:
        return house.night;
      case 3:
        return house.glad;
      case 4:
        return house.tape.size;
      case 5:
        return house.waiting.size;
      case 6:
        return speaker.trace.size;
      case 7:
        return house.z;
      default:
        return refuse(BEYOND);
    }
  }

  public int told(int k) {
    if (!within(k, BEYOND, PARTED)) {
      return refuse(BEYOND);
    }
    return refused[k];
  }

  // ---- helpers of the calls

  private int refuse(int error) {
    if (within(error, BEYOND, PARTED)) {
      refused[error]++;
    }
    return LOW - error;
  }

  private int letLeave(int guest) {
    boy.learn(house, guest);
    int coat = boy.pick(guest, house.hanging());
    house.has[guest] = coat;
    return coat;
  }

  private void letAllLeaveFrom(int first) {
    for (int step = 0; step < house.guests; step++) {
      int guest = (first + step) % house.guests;
      if (house.has[guest] == NOBODY) {
        letLeave(guest);
      }
    }
  }

  private static boolean within(int v, int least, int most) {
    return v >= least && v <= most;
  }

  private static int held(int v, int least, int most) {
    return Math.max(least, Math.min(most, v));
  }

  private static boolean isKindAndMark(int km) {
    return within(km, 0, 10 * KINDS - 1);
  }

  private static boolean isUse(int use) {
    return within(use, 0, USES - 1);
  }

  private static boolean isSheet(int sheet) {
    return within(sheet, 0, SHEETS - 1);
  }

  private static boolean isOrIsUnder(int kind, int wanted) {
    int at = kind;
    for (int step = 0; step < KINDS && within(at, 0, KINDS - 1); step++) {
      if (at == wanted) {
        return true;
      }
      at = ABOVE[at];
    }
    return false;
  }

  private static int commonDivisor(int a, int b) {
    int more = a;
    int less = b;
    // Each step at least halves one of the two, so 64 steps are enough for ints.
    for (int step = 0; step < 64 && less != 0; step++) {
      int rest = more % less;
      more = less;
      less = rest;
    }
    return more;
  }

  /** A row of ints with an end; it takes none when it is full and gives 0 when it is empty. */
  static final class Ints {
    final int[] rows;
    int size;

    Ints(int most) {
      rows = new int[Math.max(0, most)];
    }

    void push(int v) {
      if (size < rows.length) {
        rows[size] = v;
        size++;
      }
    }

    int pop() {
      if (size <= 0) {
        return 0;
      }
      size--;
      return rows[size];
    }

    int top() {
      return size <= 0 ? 0 : rows[size - 1];
    }

    void copyFrom(Ints other) {
      size = 0;
      for (int i = 0; i < other.size; i++) {
        push(other.rows[i]);
      }
    }
  }

  /** What one use gives: a text, worked out on a stack, or its first name. */
  static final class Law {
    final int least;
    final int most;
    final Ints code = new Ints(TAPE);
    final Ints stack = new Ints(TAPE);
    boolean stands;

    Law(int least, int most) {
      this.least = least;
      this.most = most;
    }

    void standAs(Ints readCode) {
      code.copyFrom(readCode);
      stands = true;
    }

    void copyFrom(Law other) {
      code.copyFrom(other.code);
      stands = other.stands;
    }

    int gives(int a, int b, int c) {
      if (!stands) {
        return held(a, least, most);
      }
      stack.size = 0;
      for (int i = 0; i < code.size; i++) {
        int item = code.rows[i];
        if (item >= 0) {
          stack.push(item);
        } else if (item >= -NAMES) {
          stack.push(item == -1 ? a : item == -2 ? b : c);
        } else {
          int second = stack.pop();
          stack.push(item == -'!' ? joined('=', second, 0) : joined(-item, stack.pop(), second));
        }
      }
      return held(stack.pop(), least, most);
    }

    private static int joined(int sign, int a, int b) {
      switch (sign) {
        case '+':
          return a + b;
        case '-':
          return a - b;
        case '*':
          return a * b;
        case '/':
          return b == 0 ? 0 : a / b;
        case '%':
          return b == 0 ? 0 : a % b;
        case '<':
          return a < b ? 1 : 0;
        case '=':
          return a == b ? 1 : 0;
        case '>':
          return a > b ? 1 : 0;
        case '&':
          return a != 0 && b != 0 ? 1 : 0;
        case '|':
          return a != 0 || b != 0 ? 1 : 0;
        default:
          return 0;
      }
    }
  }

  /**
   * Reads a tape into code for a stack: a number is itself, a name is -1, -2 or -3, a sign is less
   * its byte. Signs wait until what binds closer is out, so no call has to call itself.
   */
  static final class Reader {
    static final int NO_FAULT = -1;

    final Ints code = new Ints(TAPE);
    final Ints signs = new Ints(TAPE);
    private Ints bytes;
    private int use;
    private int place;
    private int open;
    private boolean wanting;

    /** NO_FAULT, or the place of the fault. */
    int read(Ints tape, int forUse) {
      bytes = tape;
      use = forUse;
      place = 0;
      open = 0;
      wanting = true;
      code.size = 0;
      signs.size = 0;
      for (int step = 0; step < TAPE && place < tape.size; step++) {
        boolean goesOn = wanting ? takesPart() : takesSign();
        if (!goesOn) {
          return place;
        }
      }
      return endsWell() ? NO_FAULT : tape.size;
    }

    private int byteHere() {
      return place < bytes.size ? bytes.rows[place] : 0;
    }

    private boolean takesPart() {
      int b = byteHere();
      if (isDigit(b)) {
        takeNumber();
        return true;
      }
      int name = nameOf(b);
      if (name >= 0) {
        place++;
        partIsOut(-1 - name);
        return true;
      }
      if ((b == '!' || b == '(') && open < DEEPEST_TEXT) {
        place++;
        open++;
        signs.push(b);
        return true;
      }
      return false;
    }

    private void takeNumber() {
      int number = 0;
      for (int digits = 0; digits < 4 && isDigit(byteHere()); digits++) {
        number = number * 10 + byteHere() - '0';
        place++;
      }
      partIsOut(number);
    }

    private void partIsOut(int item) {
      code.push(item);
      closeNots();
      wanting = false;
    }

    private void closeNots() {
      for (int i = 0; i < TAPE && signs.top() == '!'; i++) {
        code.push(-signs.pop());
        open--;
      }
    }

    private boolean takesSign() {
      int b = byteHere();
      if (b == ')') {
        return closesBracket();
      }
      int level = levelOf(b);
      if (level == 0) {
        return false;
      }
      boolean compares = level == 3;
      sendOut(compares ? level + 1 : level);
      if (compares && levelOf(signs.top()) == level) {
        return false;
      }
      place++;
      signs.push(b);
      wanting = true;
      return true;
    }

    private boolean closesBracket() {
      sendOut(1);
      if (signs.top() != '(') {
        return false;
      }
      place++;
      signs.pop();
      open--;
      closeNots();
      return true;
    }

    private boolean endsWell() {
      if (wanting) {
        return false;
      }
      sendOut(1);
      return signs.size == 0;
    }

    /** Signs that bind at least so closely go into the code, back to an open bracket. */
    private void sendOut(int level) {
      for (int i = 0; i < TAPE && levelOf(signs.top()) >= level; i++) {
        code.push(-signs.pop());
      }
    }

    private int nameOf(int b) {
      for (int i = 0; i < NAMES; i++) {
        int at = use * NAMES + i;
        if (at >= 0 && at < NAME_SIGNS.length && NAME_SIGNS[at] == b) {
          return i;
        }
      }
      return -1;
    }

    private static boolean isDigit(int b) {
      return within(b, '0', '9');
    }

    private static int levelOf(int b) {
      switch (b) {
        case '|':
          return 1;
        case '&':
          return 2;
        case '<':
        case '=':
        case '>':
          return 3;
        case '+':
        case '-':
          return 4;
        case '*':
        case '/':
        case '%':
          return 5;
        default:
          return 0;
      }
    }
  }

  /** All that an image keeps. */
  static final class House {
    final int[] wit = new int[MOST];
    final int[] size = new int[MOST];
    final int[] smell = new int[MOST];
    final int[] has = new int[MOST];
    final int[] kind = new int[MOST];
    final int[] mark = new int[MOST];
    final int[] owner = new int[MOST];
    final Ints tape = new Ints(TAPE);
    final Ints waiting = new Ints(MOST_NUMBERS);
    final Law[] laws = {new Law(0, 99), new Law(-99, 99)};
    int guests;
    int coats;
    int night;
    int glad;
    int z = 1;

    void copyFrom(House other) {
      copyRow(other.wit, wit);
      copyRow(other.size, size);
      copyRow(other.smell, smell);
      copyRow(other.has, has);
      copyRow(other.kind, kind);
      copyRow(other.mark, mark);
      copyRow(other.owner, owner);
      tape.copyFrom(other.tape);
      waiting.copyFrom(other.waiting);
      for (int use = 0; use < USES; use++) {
        laws[use].copyFrom(other.laws[use]);
      }
      guests = other.guests;
      coats = other.coats;
      night = other.night;
      glad = other.glad;
      z = other.z;
    }

    private static void copyRow(int[] from, int[] to) {
      System.arraycopy(from, 0, to, 0, MOST);
    }

    int addGuest(int itsWit, int itsSize, int itsSmell) {
      int number = guests;
      wit[number] = itsWit;
      size[number] = itsSize;
      smell[number] = itsSmell;
      has[number] = NOBODY;
      guests++;
      return number;
    }

    int addCoat(int itsKind, int itsMark, int itsOwner) {
      int number = coats;
      kind[number] = itsKind;
      mark[number] = itsMark;
      owner[number] = itsOwner;
      coats++;
      return number;
    }

    boolean hasGuest(int guest) {
      return within(guest, 0, guests - 1);
    }

    boolean hasGuestOrNobody(int guest) {
      return within(guest, NOBODY, guests - 1);
    }

    boolean hasCoat(int coat) {
      return within(coat, 0, coats - 1);
    }

    boolean hasCoatOrNone(int coat) {
      return within(coat, NOBODY, coats - 1);
    }

    boolean isOwn(int coat, int guest) {
      return hasCoat(coat) && owner[coat] == guest;
    }

    /** Who wears a coat; nobody wears the coat -1. */
    int wearerOf(int coat) {
      for (int g = 0; g < guests; g++) {
        if (coat != NOBODY && has[g] == coat) {
          return g;
        }
      }
      return NOBODY;
    }

    int allCoats() {
      return (1 << coats) - 1;
    }

    int hanging() {
      int pegs = allCoats();
      for (int g = 0; g < guests; g++) {
        if (hasCoat(has[g])) {
          pegs &= ~(1 << has[g]);
        }
      }
      return pegs;
    }

    int liking(int coat, int guest) {
      return laws[0].gives(suiting(coat, guest), smell[guest], night % 7);
    }

    int making(int coat, int guest) {
      return laws[1].gives(yielding(coat, guest), wit[guest], isOwn(coat, guest) ? 1 : 0);
    }

    int makingNow(int guest) {
      return hasCoat(has[guest]) ? making(has[guest], guest) : 0;
    }

    private int suiting(int coat, int guest) {
      int plain = 20 - 2 * Math.abs(size[guest] - mark[coat]);
      switch (kind[coat]) {
        case 1:
          return plain - 5;
        case 2:
          return plain + wit[guest];
        case 3:
          return smell[guest] == mark[coat] % 4 ? 30 : 0;
        case 4:
          return plain - 5 + (night % 7 == 5 ? 20 : 0);
        case 5:
          return plain + wit[guest] - smell[guest];
        case 6:
          return plain / 2;
        default:
          return plain;
      }
    }

    private int yielding(int coat, int guest) {
      int plain = wit[guest] + night % 3;
      switch (kind[coat]) {
        case 1:
          return 2 * plain;
        case 2:
          return plain / 2;
        case 4:
          return 2 * plain - mark[coat];
        case 5:
          return plain / 2 + 3;
        case 6:
          return 30 - plain;
        default:
          return plain;
      }
    }

    int endNight() {
      int together = 0;
      for (int g = 0; g < guests; g++) {
        together += makingNow(g);
      }
      glad = held(glad + together, -MOST_GLAD, MOST_GLAD);
      undress();
      night++;
      return together;
    }

    private void undress() {
      for (int g = 0; g < guests; g++) {
        has[g] = NOBODY;
      }
    }

    /** The one with whom a night by draws begins; without guests nothing is drawn. */
    int drawnGuest() {
      if (guests <= 0) {
        return 0;
      }
      z = z * 1103515245 + 12345;
      return (z >>> 8) % guests;
    }

    int dressBy(Sheet sheet) {
      undress();
      for (int i = 0; i < sheet.length; i++) {
        int coat = sheet.numbers[i];
        if (!hasGuest(i) || !hasCoatOrNone(coat) || wearerOf(coat) != NOBODY) {
          return i;
        }
        has[i] = coat;
      }
      return sheet.length;
    }
  }

  /** The small boy: how like each coat is to each guest, as he has learnt it for one night. */
  static final class Boy {
    private final int[] likes = new int[MOST * MOST];
    private int coats;

    void learn(House house, int guest) {
      coats = house.coats;
      for (int c = 0; c < coats; c++) {
        likes[guest * MOST + c] = house.liking(c, guest);
      }
    }

    void learnAll(House house) {
      for (int g = 0; g < house.guests; g++) {
        learn(house, g);
      }
    }

    /** Of the coats in a set the one most like, of several the least; -1 of an empty set. */
    int pick(int guest, int pegs) {
      int picked = NOBODY;
      int most = -1;
      for (int c = 0; c < coats; c++) {
        int like = likes[guest * MOST + c];
        if ((pegs >> c & 1) != 0 && like > most) {
          most = like;
          picked = c;
        }
      }
      return picked;
    }
  }

  /** What is only thought: the best giving, the best order, and leaving in a round. */
  static final class Thought {
    private static final int SETS = 1 << MOST;

    final int[] given = new int[MOST];
    int bestSum;
    final int[] bestOrder = new int[MOST];
    int orderSum;
    private boolean orderFound;
    private int people;
    private final int[] path = new int[MOST];
    private final int[] got = new int[MOST];
    private final int[] makes = new int[MOST * MOST];
    /** The most that the guests from one on can come to, when a set of coats is given away. */
    private final int[] most = new int[(MOST + 1) * SETS];

    private void learnMakes(House house) {
      for (int g = 0; g < house.guests; g++) {
        for (int c = 0; c < house.coats; c++) {
          makes[g * MOST + c] = house.making(c, g);
        }
      }
    }

    void giveBest(House house) {
      learnMakes(house);
      int sets = 1 << house.coats;
      for (int set = 0; set < sets; set++) {
        most[house.guests * SETS + set] = 0;
      }
      for (int g = house.guests - 1; g >= 0; g--) {
        for (int set = 0; set < sets; set++) {
          most[g * SETS + set] = mostFrom(g, set, house.coats);
        }
      }
      bestSum = most[0];
      int away = 0;
      for (int g = 0; g < house.guests; g++) {
        given[g] = leastForMost(g, away, house.coats);
        away |= bitOf(given[g]);
      }
    }

    private int mostFrom(int guest, int away, int coats) {
      int sum = most[(guest + 1) * SETS + away];
      for (int c = 0; c < coats; c++) {
        if ((away & 1 << c) == 0) {
          sum = Math.max(sum, sumWith(guest, c, away));
        }
      }
      return sum;
    }

    private int leastForMost(int guest, int away, int coats) {
      for (int c = 0; c < coats; c++) {
        if ((away & 1 << c) == 0 && sumWith(guest, c, away) == most[guest * SETS + away]) {
          return c;
        }
      }
      return NOBODY;
    }

    private int sumWith(int guest, int coat, int away) {
      return makes[guest * MOST + coat] + most[(guest + 1) * SETS + (away | 1 << coat)];
    }

    private static int bitOf(int coat) {
      return coat < 0 ? 0 : 1 << coat;
    }

    void findOrder(House house, Boy boy) {
      learnMakes(house);
      boy.learnAll(house);
      orderSum = 0;
      orderFound = false;
      people = house.guests;
      goOn(boy, 0, 0, house.allCoats(), 0);
    }

    /** Orders are tried from the least on, so that only a better one takes the place of one. */
    private void goOn(Boy boy, int depth, int gone, int pegs, int sum) {
      if (depth >= people || depth >= MOST) {
        keepOrder(sum);
        return;
      }
      for (int g = 0; g < people; g++) {
        if ((gone & 1 << g) == 0) {
          path[depth] = g;
          leaveNext(boy, depth, gone, pegs, sum);
        }
      }
    }

    private void leaveNext(Boy boy, int depth, int gone, int pegs, int sum) {
      int guest = path[depth];
      int coat = boy.pick(guest, pegs);
      int more = coat < 0 ? 0 : makes[guest * MOST + coat];
      goOn(boy, depth + 1, gone | 1 << guest, pegs & ~bitOf(coat), sum + more);
    }

    private void keepOrder(int sum) {
      if (orderFound && sum <= orderSum) {
        return;
      }
      orderFound = true;
      orderSum = sum;
      for (int i = 0; i < people; i++) {
        bestOrder[i] = path[i];
      }
    }

    private void leaveInRound(House house, Boy boy, int first) {
      int pegs = house.allCoats();
      for (int step = 0; step < house.guests; step++) {
        int guest = (first + step) % house.guests;
        got[guest] = boy.pick(guest, pegs);
        pegs &= ~bitOf(got[guest]);
      }
    }

    int startsWithOwn(House house, Boy boy, int guest) {
      boy.learnAll(house);
      int starts = 0;
      for (int first = 0; first < house.guests; first++) {
        leaveInRound(house, boy, first);
        if (house.isOwn(got[guest], guest)) {
          starts++;
        }
      }
      return starts;
    }

    int startsThatFit(House house, Boy boy, Sheet sheet) {
      boy.learnAll(house);
      int starts = 0;
      for (int first = 0; first < house.guests; first++) {
        leaveInRound(house, boy, first);
        // A number that tells of a guest who isn't there can't be right, so it fits nobody.
        if (sheet.rightOnes(got, house.guests) == sheet.length) {
          starts |= 1 << first;
        }
      }
      return starts;
    }
  }

  /** The voices of one coat at a time. */
  static final class Speaker {
    /** The bodies of the latest voice, of one that parted too. */
    final Ints trace = new Ints(MOST_TRACED);
    boolean parted;
    private int kind;
    private int k;
    private int m;

    int speak(int itsKind, int number, int itsMark, int voice, int x) {
      kind = itsKind;
      k = number;
      m = itsMark;
      parted = false;
      trace.size = 0;
      return say(itsKind, voice, x, 0);
    }

    private int say(int from, int voice, int x, int depth) {
      int at = kindWithBody(from, voice);
      if (at < 0 || depth > DEEPEST_VOICE) {
        return 0;
      }
      int number = BODIES[at * VOICES + voice];
      trace.push(number);
      return number < 30
          ? sayPlain(number, ABOVE[at], x, depth + 1)
          : sayOther(number, ABOVE[at], x, depth + 1);
    }

    private static int kindWithBody(int from, int voice) {
      int at = from;
      for (int step = 0; step < KINDS && within(at, 0, KINDS - 1); step++) {
        if (BODIES[at * VOICES + voice] != 0) {
          return at;
        }
        at = ABOVE[at];
      }
      return -1;
    }

    /** Bodies of Coat and Ulster. */
    private int sayPlain(int number, int above, int x, int depth) {
      switch (number) {
        case 10:
          return x + k;
        case 11:
          return say(kind, HANGS, x, depth) * 2;
        case 12:
          return say(kind, KEEPS, x, depth) - m;
        case 13:
          return part(x);
        case 20:
          return say(above, HANGS, x, depth) - 4;
        case 21:
          return partAndKeep(above, x, depth);
        default:
          return 0;
      }
    }

    private int sayOther(int number, int above, int x, int depth) {
      switch (number) {
        case 30:
          return 0 - say(above, KEEPS, x, depth);
        case 40:
          return say(above, RETURNS, x / 2, depth);
        case 50:
          return say(above, HANGS, x, depth) * 3;
        case 51:
          return say(above, RETURNS, x, depth) ^ k;
        case 60:
          return say(above, KEEPS, x + 1, depth);
        case 70:
          return 9;
        case 71:
          return say(above, KEEPS, x, depth) + m;
        default:
          return 0;
      }
    }

    /** A voice that parted answers that alone, so no other body begins after it. */
    private int partAndKeep(int above, int x, int depth) {
      int part = say(above, PARTS, x, depth);
      return parted ? 0 : part + say(kind, KEEPS, 1, depth);
    }

    private int part(int x) {
      int by = m - k;
      if (by == 0) {
        parted = true;
        return 0;
      }
      return x / by;
    }
  }

  /** Numbers of so many bits; of 0 bits when it is missing. */
  static final class Sheet {
    final int[] numbers = new int[MOST_NUMBERS];
    int bits;
    int length;

    boolean isMissing() {
      return bits == 0;
    }

    void lay(int itsBits, int n) {
      bits = itsBits;
      length = n;
      for (int i = 0; i < MOST_NUMBERS; i++) {
        numbers[i] = 0;
      }
    }

    void write(int i, int v) {
      numbers[i] = bits == 8 ? (byte) v : bits == 16 ? (short) v : v;
    }

    /** Whether n numbers stand from one on; none stand at the very end, too. */
    boolean holds(int from, int n) {
      return within(n, 0, length) && within(from, 0, length - n);
    }

    /** How many of the numbers, from the first on, are what so many guests have. */
    int rightOnes(int[] has, int guests) {
      for (int i = 0; i < length; i++) {
        if (i >= guests || i >= has.length || numbers[i] != has[i]) {
          return i;
        }
      }
      return length;
    }
  }
}
