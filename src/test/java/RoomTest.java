import java.lang.management.ManagementFactory;

/**
 * All calls of one run live in one room of some 7.3 million fields and elements: what an object and
 * its 512 calls make stays far below that, whatever the calls are.
 */
public final class RoomTest {
  private static final Due DUE = new Due("RoomTest");
  private static final int CALLS = 512;
  private static final int[] LONG_LAW = numbers("refuses if " + "not 1=1 and ".repeat(24) + "2=2");

  public static void main(String[] args) {
    made();
    for (int way = 0; way < 3; way++) {
      run(way);
    }
    long without = bytes();
    without = bytes() - without;
    String[] ways = {"all kinds of calls", "laws alone", "images alone"};
    for (int way = 0; way < ways.length; way++) {
      long before = bytes();
      run(way);
      long used = bytes() - before - without;
      DUE.is(ways[way] + " make " + used + " bytes", used < 1200000 ? 1 : 0, 1);
    }
    DUE.end();
  }

  private static long bytes() {
    return ((com.sun.management.ThreadMXBean) ManagementFactory.getThreadMXBean())
        .getThreadAllocatedBytes(Thread.currentThread().getId());
  }

  private static void made() {
    new HandedOn();
    long without = bytes();
    without = bytes() - without;
    long before = bytes();
    HandedOn x = new HandedOn();
    long used = bytes() - before - without;
    DUE.is("a new one makes " + used + " bytes", used < 40000 ? 1 : 0, 1);
    DUE.is("count(0)", x.count(0), 0);
  }

  private static void run(int way) {
    HandedOn x = new HandedOn();
    for (int i = 0; i < 8; i++) {
      x.one(5, 5, 4);
    }
    x.art(4, 1);
    x.know(0, 0, 9);
    x.image(0);
    for (int i = 0; i < CALLS; i++) {
      if (way == 0) {
        mixed(x, i);
      } else if (way == 1) {
        lawAnew(x, i);
      } else {
        imageAnew(x, i);
      }
    }
  }

  private static void mixed(HandedOn x, int i) {
    int[] answers = {x.soonest(0), x.first(0, i % 3), x.left(0), x.best(0), x.fewest(0, 1),
        x.show(i % 30, i % 8, 0, 1 << i % 7), x.judge(i % 5), x.week(0, i), x.ring(i % 8, 0),
        x.well(12, 1, 9, 5), x.talk(i % 8, 3), x.order(0), x.know(i % 8, 0, i % 10)};
    if (answers.length == 0) {
      throw new IllegalStateException();
    }
  }

  // LAWS with as many steps as can be; BACK makes room for the next.
  private static void lawAnew(HandedOn x, int i) {
    for (int k = 0; k < LONG_LAW.length; k += 5) {
      x.feed(LONG_LAW[k], LONG_LAW[k + 1], LONG_LAW[k + 2], LONG_LAW[k + 3], LONG_LAW[k + 4]);
    }
    x.law();
    if (i % 6 == 5) {
      x.back(0);
    }
  }

  private static int[] numbers(String text) {
    int[] found = new int[100];
    for (int i = 0; i < 400; i++) {
      found[i / 4] = found[i / 4] << 8 | (i < text.length() ? text.charAt(i) : ' ');
    }
    return found;
  }

  private static void imageAnew(HandedOn x, int i) {
    x.image(i % 2);
    x.back(i % 2);
  }
}
