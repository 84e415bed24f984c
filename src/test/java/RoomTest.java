import java.lang.management.ManagementFactory;

/** All calls of one run live in one small room, so no call makes anything, and an object is small. */
public final class RoomTest {
  private static final String LONG_TEXT =
      "g*2+s*3-n%4+(g|s&n<5)*(g+1)/(s+1)+!(g=s)*7+!!g-(n+(s*2))+123";

  /** So small that a run could make an object anew for each of 512 calls. */
  private static final int MOST_BYTES = 16384;

  private static void tell(WrongCoats x, int use, String text) {
    for (int i = 0; i < text.length(); i++) {
      x.feed(text.charAt(i), 1);
    }
    if (x.text(use) != 1) {
      System.out.println("not a text: " + text);
      System.exit(1);
    }
  }

  /** Fewer than 512 calls, as later ones are free to do anything. */
  private static long dearCalls(WrongCoats x) {
    long sum = 0;
    for (int i = 0; i < 3; i++) {
      tell(x, 0, LONG_TEXT);
      tell(x, 1, "d+w*o+(d>w)*3");
      sum += x.best(i) + x.order(i) + x.odds(i, 0) + x.fits(0, 0) + x.loose(30) + x.nights(30);
      sum += x.voice(4, 2, 5) + x.voice(4, 3, 5) + x.image() + x.restore() + x.left(1);
      sum += x.wearsAll(0) + x.judge(0) + x.move(0, 0, 0, 1, 3) + x.tell(1) + x.check();
    }
    return sum;
  }

  private static WrongCoats ready(int guests) {
    WrongCoats x = new WrongCoats();
    for (int i = 0; i < 7; i++) {
      if (i < guests) {
        x.guest(i, 9 - i, i % 4);
      }
      x.coat(10 * i + i, Math.min(i, guests - 1));
    }
    x.sheet(0, 32, 6);
    return x;
  }

  private static void due(long bytes, long most, String by) {
    System.out.println(bytes + " bytes made by " + by);
    if (bytes > most) {
      System.out.println("that is too much");
      System.exit(1);
    }
  }

  public static void main(String[] args) {
    if (!(ManagementFactory.getThreadMXBean()
        instanceof com.sun.management.ThreadMXBean threads)) {
      System.out.println("this machine doesn't tell what is made");
      return;
    }
    long sum = dearCalls(ready(6)) + dearCalls(ready(7));
    WrongCoats[] all = new WrongCoats[40];
    long before = threads.getCurrentThreadAllocatedBytes();
    for (int i = 0; i < all.length; i++) {
      all[i] = new WrongCoats();
    }
    due((threads.getCurrentThreadAllocatedBytes() - before) / all.length, MOST_BYTES, "a new object");
    for (int i = 0; i < all.length; i++) {
      all[i] = ready(6 + i % 2);
    }
    before = threads.getCurrentThreadAllocatedBytes();
    for (WrongCoats x : all) {
      sum += dearCalls(x);
    }
    due(threads.getCurrentThreadAllocatedBytes() - before, 10000, "dear calls (sum " + sum + ")");
  }
}
