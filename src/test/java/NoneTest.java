import java.util.function.Supplier;
import java.util.function.ToIntFunction;

/**
 * Calls that can't be REFUSED: beyond their edges they answer NONE, on them they do not. Either
 * way all stays as it was, count and status too.
 */
public final class NoneTest {
  private static final Due DUE = new Due("NoneTest");
  private static final int NONE = HandedOn.NONE;
  private static final int MIN = Integer.MIN_VALUE;
  private static final int MAX = Integer.MAX_VALUE;

  // Numbers that are nobody's and no ART's in some(), which has three PEOPLE and two ARTS.
  private static final int[] NOBODY = {3, 8, 32, -1, -2, MIN, MAX};
  private static final int[] NO_ART = {2, 5, 32, -1, -2, MIN, MAX};
  private static final int[] NO_DAY = {30, 31, 32, -1, -2, MIN, MAX};

  public static void main(String[] args) {
    of();
    feed();
    end();
    handed();
    planned();
    why();
    judge();
    soonest();
    first();
    fewest();
    leftOutAndStart();
    alikeAndWell();
    ring();
    order();
    heard();
    talks();
    drawn();
    count();
    nothingThere();
    DUE.end();
  }

  /** The latest call that could be REFUSED was, so that status stays what it is. */
  private static HandedOn some() {
    HandedOn x = Due.people(4, 4, 4);
    x.art(2, 2);
    x.art(1, 1);
    x.know(0, 0, 5);
    x.know(1, 1, 2);
    Due.law(x, "learnt knows-1");
    x.force(0);
    x.show(0, 0, 0, 2);
    x.show(29, 1, 1, 4);
    x.wrong(0, 1);
    x.talk(0, 1);
    x.week(0, 7);
    x.feed(0x05060700, 0, 0, 0, 0);
    x.end(3);
    x.put(2, 0, 10);
    x.talk(2, 2);
    return x;
  }

  private static HandedOn empty() {
    HandedOn x = new HandedOn();
    x.talk(0, 0);
    return x;
  }

  private static void none(String call, ToIntFunction<HandedOn> asked) {
    none(call, NoneTest::some, asked);
  }

  private static void none(String call, Supplier<HandedOn> world, ToIntFunction<HandedOn> asked) {
    HandedOn x = world.get();
    DUE.is(call, asked.applyAsInt(x), NONE);
    isStill(call, x, world.get());
  }

  private static void told(String call, int due, ToIntFunction<HandedOn> asked) {
    HandedOn x = some();
    DUE.is(call, asked.applyAsInt(x), due);
    isStill(call, x, some());
  }

  private static void isStill(String call, HandedOn x, HandedOn twin) {
    DUE.is("status() behind " + call, x.status(), twin.status());
    for (int what = 5; what <= 9; what++) {
      DUE.is("count(" + what + ") behind " + call, x.count(what), twin.count(what));
    }
    DUE.is("all stays behind " + call, Seen.of(x).equals(Seen.of(twin)) ? 1 : 0, 1);
  }

  private static void of() {
    DUE.sentence("8: of, NONE");
    told("of(0, 0)", 5, x -> x.of(0, 0));
    told("of(2, 9)", 0, x -> x.of(2, 9));
    told("of(2, 7): an ART that is not there", 0, x -> x.of(2, 7));
    for (int nobody : NOBODY) {
      none("of(" + nobody + ", 0)", x -> x.of(nobody, 0));
      none("of(" + nobody + ", 9)", x -> x.of(nobody, 9));
    }
    for (int what : new int[] {-1, 10, MIN, MAX}) {
      none("of(0, " + what + ")", x -> x.of(0, what));
    }
  }

  private static void feed() {
    DUE.sentence("9: feed, NONE, if there would be more than 400");
    none("feed to 401", () -> tape(381), x -> x.feed(1, 2, 3, 4, 5));
    none("feed to 420", () -> tape(400), x -> x.feed(MIN, MAX, -1, 0, 1));
    HandedOn x = tape(380);
    DUE.is("feed to 400", x.feed(1, 2, 3, 4, 5), 400);
    DUE.is("status() of feed", x.status(), 0);
  }

  private static HandedOn tape(int bytes) {
    HandedOn x = Due.people(4, 4);
    x.art(1, 1);
    for (int i = 0; i < 20; i++) {
      x.feed(0x01020304, i, i, i, i);
    }
    x.end(bytes);
    return x;
  }

  private static void end() {
    DUE.sentence("10: end, NONE, if it has not so many, or n is below 0");
    told("end(3), all that it has", 3, x -> x.end(3));
    for (int n : new int[] {4, 20, 400, 401, -1, MIN, MAX}) {
      none("end(" + n + ")", x -> x.end(n));
    }
    none("end(1) of an empty TAPE", NoneTest::empty, x -> x.end(1));
  }

  private static void handed() {
    DUE.sentence("16: handed, NONE (the same one, too)");
    int[] due = {4, 2, 0, 0};
    for (int what = 0; what < 4; what++) {
      int which = what;
      told("handed(0, 1, 0, " + which + ")", due[which], x -> x.handed(0, 1, 0, which));
      for (int same = 0; same < 3; same++) {
        int one = same;
        none("handed of the same one", x -> x.handed(one, one, 0, which));
      }
      for (int nobody : NOBODY) {
        none("handed(" + nobody + ", 0, ..)", x -> x.handed(nobody, 0, 0, which));
        none("handed(0, " + nobody + ", ..)", x -> x.handed(0, nobody, 0, which));
      }
      for (int none : NO_ART) {
        none("handed(0, 1, " + none + ", ..)", x -> x.handed(0, 1, none, which));
      }
    }
    for (int what : new int[] {-1, 4, MIN, MAX}) {
      none("handed(0, 1, 0, " + what + ")", x -> x.handed(0, 1, 0, what));
    }
  }

  private static void planned() {
    DUE.sentence("20 .. 22: behind, has, spent, NONE");
    told("behind(0, 1, 0)", 4, x -> x.behind(0, 1, 0));
    told("behind(29, 2, 1)", 1, x -> x.behind(29, 2, 1));
    told("has(0, 1, 0)", 1, x -> x.has(0, 1, 0));
    told("has(29, 1, 0)", 1, x -> x.has(29, 1, 0));
    told("spent(0, 0)", 2, x -> x.spent(0, 0));
    told("spent(29, 2)", 1, x -> x.spent(29, 2));
    for (int day : NO_DAY) {
      none("behind(" + day + ", 0, 0)", x -> x.behind(day, 0, 0));
      none("has(" + day + ", 0, 0)", x -> x.has(day, 0, 0));
      none("spent(" + day + ", 0)", x -> x.spent(day, 0));
    }
    for (int nobody : NOBODY) {
      none("behind(0, " + nobody + ", 0)", x -> x.behind(0, nobody, 0));
      none("has(0, " + nobody + ", 0)", x -> x.has(0, nobody, 0));
      none("spent(0, " + nobody + ")", x -> x.spent(0, nobody));
    }
    for (int none : NO_ART) {
      none("behind(0, 0, " + none + ")", x -> x.behind(0, 0, none));
      none("has(0, 0, " + none + ")", x -> x.has(0, 0, none));
    }
  }

  private static void why() {
    DUE.sentence("23: why, NONE");
    told("why(0)", 0, x -> x.why(0));
    told("why(1)", 0, x -> x.why(1));
    for (int showing : new int[] {2, 59, 60, -1, MIN, MAX}) {
      none("why(" + showing + ")", x -> x.why(showing));
    }
  }

  private static void judge() {
    DUE.sentence("24: judge, NONE");
    int[] due = {0, NONE, 6, NONE, 1};
    for (int what = 0; what < 5; what++) {
      int which = what;
      told("judge(" + which + ")", due[which], x -> x.judge(which));
    }
    for (int what : new int[] {-1, 5, MIN, MAX}) {
      none("judge(" + what + ")", x -> x.judge(what));
    }
  }

  private static void soonest() {
    DUE.sentence("25: soonest, NONE (it can't be, too)");
    told("soonest(0)", 1, x -> x.soonest(0));
    for (int none : NO_ART) {
      none("soonest(" + none + ")", x -> x.soonest(none));
    }
    none("soonest of what nobody KNOWS", () -> Due.crowd(2, 1, 1, 1), x -> x.soonest(0));
  }

  private static void first() {
    DUE.sentence("26: first, NONE (it can't be, too)");
    told("first(0, NONE)", 1, x -> x.first(0, NONE));
    told("first(0, 0)", 7, x -> x.first(0, 0));
    told("first(0, 29)", 7, x -> x.first(0, 29));
    for (int day : NO_DAY) {
      if (day != NONE) {
        none("first(0, " + day + ")", x -> x.first(0, day));
      }
    }
    for (int none : NO_ART) {
      none("first(" + none + ", 0)", x -> x.first(none, 0));
      none("first(" + none + ", NONE)", x -> x.first(none, NONE));
    }
    for (int day : new int[] {NONE, 0, 29}) {
      none("first of what nobody KNOWS", () -> Due.crowd(2, 1, 1, 1), x -> x.first(0, day));
    }
  }

  private static void fewest() {
    DUE.sentence("27: fewest, the FIRST who shows (1; NONE without any). NONE (it can't be, too)");
    told("fewest(0, 0)", 1, x -> x.fewest(0, 0));
    told("fewest(0, 1)", 0, x -> x.fewest(0, 1));
    for (int what : new int[] {-1, 2, MIN, MAX}) {
      none("fewest(0, " + what + ")", x -> x.fewest(0, what));
    }
    for (int none : NO_ART) {
      none("fewest(" + none + ", 0)", x -> x.fewest(none, 0));
      none("fewest(" + none + ", 1)", x -> x.fewest(none, 1));
    }
    none("fewest, nobody KNOWS it", () -> Due.crowd(2, 1, 1, 1), x -> x.fewest(0, 0));
    none("the FIRST, nobody KNOWS it", () -> Due.crowd(2, 1, 1, 1), x -> x.fewest(0, 1));
    none("the FIRST, without any", () -> Due.crowd(0, 1, 1, 1), x -> x.fewest(0, 1));
  }

  private static void leftOutAndStart() {
    DUE.sentence("28 .. 31: without, left, start, best, NONE");
    told("without(0, 2)", 1, x -> x.without(0, 2));
    none("without(0, 0): it can't be", x -> x.without(0, 0));
    told("left(0)", 1, x -> x.left(0));
    told("start(0, 2)", 1, x -> x.start(0, 2));
    told("best(0)", 0, x -> x.best(0));
    for (int none : NO_ART) {
      none("without(" + none + ", 0)", x -> x.without(none, 0));
      none("left(" + none + ")", x -> x.left(none));
      none("start(" + none + ", 0)", x -> x.start(none, 0));
      none("best(" + none + ")", x -> x.best(none));
    }
    for (int nobody : NOBODY) {
      none("without(0, " + nobody + ")", x -> x.without(0, nobody));
      none("start(0, " + nobody + ")", x -> x.start(0, nobody));
    }
    none("left: it can't be", () -> Due.crowd(2, 0, 1, 1), x -> x.left(0));
    none("start: it can't be", () -> Due.crowd(2, 0, 1, 1), x -> x.start(0, 1));
    none("best: it can't be", () -> Due.crowd(2, 0, 1, 1), x -> x.best(0));
  }

  private static void alikeAndWell() {
    DUE.sentence("32, 33: m (1 .. 12), t (1 .. 9), k (1 .. 3), w (1 .. 9), d (0 .. 12); NONE");
    told("alike(1, 1, 1, 1)", 0, x -> x.alike(1, 1, 1, 1));
    told("alike(12, 3, 9, 1)", 2, x -> x.alike(12, 3, 9, 1));
    told("alike(1, 1, 9, 9)", 0, x -> x.alike(1, 1, 9, 9));
    none("alike: it can't be", x -> x.alike(2, 1, 1, 1));
    told("well(1, 1, 1, 0)", 1, x -> x.well(1, 1, 1, 0));
    told("well(12, 3, 9, 12)", 8, x -> x.well(12, 3, 9, 12));
    told("well: not all can", 0, x -> x.well(2, 1, 1, 12));
    int[] low = {1, 1, 1};
    int[] high = {12, 3, 9};
    for (int i = 0; i < 3; i++) {
      for (int bad : new int[] {low[i] - 1, high[i] + 1, MIN, MAX}) {
        int[] a = {1, 1, 1};
        a[i] = bad;
        none("alike, number " + i + " is " + bad, x -> x.alike(a[0], a[1], a[2], 1));
        none("well, number " + i + " is " + bad, x -> x.well(a[0], a[1], a[2], 1));
      }
    }
    for (int w : new int[] {0, 10, MIN, MAX}) {
      none("alike, w is " + w, x -> x.alike(1, 1, 9, w));
    }
    for (int d : new int[] {-1, 13, MIN, MAX}) {
      none("well, d is " + d, x -> x.well(1, 1, 9, d));
    }
  }

  private static void ring() {
    DUE.sentence("34: ring, NONE");
    told("ring(0, 0)", 2, x -> x.ring(0, 0));
    told("ring(2, 1): 1 has 2 of its own", 1, x -> x.ring(2, 1));
    for (int nobody : NOBODY) {
      none("ring(" + nobody + ", 0)", x -> x.ring(nobody, 0));
    }
    for (int none : NO_ART) {
      none("ring(0, " + none + ")", x -> x.ring(0, none));
    }
  }

  private static void order() {
    DUE.sentence("35: order, NONE");
    told("order(NONE)", 2, x -> x.order(NONE));
    told("order(0)", 0, x -> x.order(0));
    told("order(1)", 1, x -> x.order(1));
    for (int i : new int[] {2, 5, 32, -2, MIN, MAX}) {
      none("order(" + i + ")", x -> x.order(i));
    }
  }

  private static void heard() {
    DUE.sentence("37: heard, NONE");
    told("heard(NONE)", 1, x -> x.heard(NONE));
    told("heard(0)", 3, x -> x.heard(0));
    told("heard(2)", 4, x -> x.heard(2));
    for (int nobody : NOBODY) {
      if (nobody != NONE) {
        none("heard(" + nobody + ")", x -> x.heard(nobody));
      }
    }
  }

  private static void talks() {
    DUE.sentence("38: talks, n (1 .. 12), NONE");
    told("talks(1)", 0, x -> x.talks(1));
    told("talks(12)", 20, x -> x.talks(12));
    for (int n : new int[] {0, 13, -1, MIN, MAX}) {
      none("talks(" + n + ")", x -> x.talks(n));
    }
  }

  private static void drawn() {
    DUE.sentence("40: drawn, DAY 0 .. 6 (one NONE, DAY 0), NONE");
    told("drawn(0, 0)", 5, x -> x.drawn(0, 0));
    told("drawn(6, 0)", 5, x -> x.drawn(6, 0));
    told("drawn(0, NONE)", 0, x -> x.drawn(0, NONE));
    for (int day : new int[] {7, 8, 29, -1, MIN, MAX}) {
      none("drawn(" + day + ", 0)", x -> x.drawn(day, 0));
      none("drawn(" + day + ", NONE)", x -> x.drawn(day, NONE));
    }
    for (int day = 1; day < 7; day++) {
      int which = day;
      none("drawn(" + which + ", NONE)", x -> x.drawn(which, NONE));
    }
    for (int nobody : NOBODY) {
      if (nobody != NONE) {
        none("drawn(0, " + nobody + ")", x -> x.drawn(0, nobody));
      }
    }
  }

  private static void count() {
    DUE.sentence("43: count, NONE for others");
    int[] due = {3, 2, 1, 2, 3, 1, 0, 1, 0, 0, 0};
    for (int what = 0; what < due.length; what++) {
      int which = what;
      told("count(" + which + ")", due[which], x -> x.count(which));
    }
    for (int what : new int[] {-1, 11, 31, MIN, MAX}) {
      none("count(" + what + ")", x -> x.count(what));
    }
  }

  private static void nothingThere() {
    DUE.sentence("1: no PEOPLE, ARTS, LAWS");
    none("of(0, 0)", NoneTest::empty, x -> x.of(0, 0));
    none("fault()", NoneTest::empty, HandedOn::fault);
    none("handed(0, 1, 0, 0)", NoneTest::empty, x -> x.handed(0, 1, 0, 0));
    none("behind(0, 0, 0)", NoneTest::empty, x -> x.behind(0, 0, 0));
    none("has(0, 0, 0)", NoneTest::empty, x -> x.has(0, 0, 0));
    none("spent(0, 0)", NoneTest::empty, x -> x.spent(0, 0));
    none("why(0)", NoneTest::empty, x -> x.why(0));
    none("judge(1)", NoneTest::empty, x -> x.judge(1));
    none("soonest(0)", NoneTest::empty, x -> x.soonest(0));
    none("first(0, NONE)", NoneTest::empty, x -> x.first(0, NONE));
    none("fewest(0, 0)", NoneTest::empty, x -> x.fewest(0, 0));
    none("without(0, 0)", NoneTest::empty, x -> x.without(0, 0));
    none("left(0)", NoneTest::empty, x -> x.left(0));
    none("start(0, 0)", NoneTest::empty, x -> x.start(0, 0));
    none("best(0)", NoneTest::empty, x -> x.best(0));
    none("ring(0, 0)", NoneTest::empty, x -> x.ring(0, 0));
    none("order(0)", NoneTest::empty, x -> x.order(0));
    none("heard(0)", NoneTest::empty, x -> x.heard(0));
    none("drawn(0, 0)", NoneTest::empty, x -> x.drawn(0, 0));
    none("drawn(0, NONE)", NoneTest::empty, x -> x.drawn(0, NONE));
    none("count(10)", NoneTest::empty, x -> x.count(10));
  }
}
