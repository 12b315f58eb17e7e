import java.util.List;
import java.util.function.Supplier;
import java.util.function.ToIntFunction;

/**
 * Every way in which a call is REFUSED: by what, what count and status say of it, and that all else
 * stays as it was. Two objects are made alike, one of them has the call that is REFUSED besides.
 */
public final class RefusedTest {
  private static final Due DUE = new Due("RefusedTest");
  private static final int MIN = Integer.MIN_VALUE;
  private static final int MAX = Integer.MAX_VALUE;
  private static final int[] REASONS = {-1, -2, -3, -5, -6};

  // Numbers that are nobody's and no ART's in some(), which has three PEOPLE and two ARTS.
  private static final int[] NOBODY = {3, 7, 8, 31, 32, -1, -2, MIN, MAX};
  private static final int[] NO_ART = {2, 4, 5, 31, 32, -1, -2, MIN, MAX};

  public static void main(String[] args) {
    one();
    put();
    meet();
    art();
    rule();
    know();
    row();
    lawOfBadText();
    lawWithoutRoom();
    force();
    show();
    wrong();
    talk();
    week();
    image();
    back();
    nothingThere();
    firstOfTheReasons();
    countedOneByOne();
    statusOfTheLatest();
    DUE.end();
  }

  /** Nobody, nothing. */
  private static HandedOn empty() {
    return new HandedOn();
  }

  /** Three PEOPLE, two ARTS, a LAW in FORCE, SHOWINGS, a TALK, a WEEK, IMAGE 0, three bytes. */
  private static HandedOn some() {
    HandedOn x = Due.people(4, 4, 4);
    x.art(2, 2);
    x.art(1, 1);
    x.know(0, 0, 5);
    x.know(1, 1, 2);
    Due.law(x, "learnt knows-1");
    Due.law(x, "learnt ?");
    x.force(0);
    x.show(0, 0, 0, 2);
    x.show(1, 1, 0, 4);
    x.wrong(0, 1);
    x.talk(0, 1);
    x.feed(0x020A0000, 0, 0, 0, 0);
    x.row(1);
    x.week(0, 7);
    x.image(0);
    x.meet(1, 2, 0);
    x.put(2, 3, 2);
    x.feed(0x05060700, 0, 0, 0, 0);
    x.end(3);
    return x;
  }

  /** All that there is room for: 8 PEOPLE, 5 ARTS, 6 LAWS, 60 SHOWINGS, 400 bytes. */
  private static HandedOn full() {
    HandedOn x = Due.people(4, 4, 4, 4, 4, 4, 4, 4);
    for (int i = 0; i < 5; i++) {
      x.art(1 + i, 1 + i % 3);
      x.know(i, i, 9 - i);
    }
    for (int i = 0; i < 6; i++) {
      Due.law(x, "learnt " + i);
    }
    x.force(5);
    for (int i = 0; i < 60; i++) {
      x.show(i % 30, i % 8, i % 5, 1 << (i + 1) % 8);
    }
    for (int i = 0; i < 20; i++) {
      x.feed(0x04050607, i, i, i, i);
    }
    return x;
  }

  private static void refused(String call, int by, Supplier<HandedOn> world,
      ToIntFunction<HandedOn> asked) {
    refusedBut(call, by, world, asked, twin -> 0);
  }

  /** "but": what the call does all the same, told to the twin in another way. */
  private static void refusedBut(String call, int by, Supplier<HandedOn> world,
      ToIntFunction<HandedOn> asked, ToIntFunction<HandedOn> but) {
    HandedOn x = world.get();
    HandedOn twin = world.get();
    DUE.is(call, asked.applyAsInt(x), by);
    DUE.is("status() behind " + call, x.status(), by);
    but.applyAsInt(twin);
    for (int i = 0; i < REASONS.length; i++) {
      int more = REASONS[i] == by ? 1 : 0;
      DUE.is("count(" + (5 + i) + ") behind " + call, x.count(5 + i), twin.count(5 + i) + more);
    }
    String stands = Seen.of(x);
    String due = Seen.of(twin);
    DUE.is("all stays behind " + call, stands.equals(due) ? 1 : 0, 1);
  }

  private static void one() {
    DUE.sentence("2: one -1; -5");
    int[][] bad = {{-1, 5, 4}, {10, 5, 4}, {MIN, 5, 4}, {MAX, 5, 4}, {5, -1, 4}, {5, 10, 4},
        {5, MIN, 4}, {5, MAX, 4}, {5, 5, -1}, {5, 5, 13}, {5, 5, MIN}, {5, 5, MAX}};
    for (int[] b : bad) {
      String call = "one(" + b[0] + ", " + b[1] + ", " + b[2] + ")";
      refused(call, -1, RefusedTest::some, x -> x.one(b[0], b[1], b[2]));
      refused(call + ", no room", -1, RefusedTest::full, x -> x.one(b[0], b[1], b[2]));
    }
    refused("one(5, 5, 4), no room", -5, RefusedTest::full, x -> x.one(5, 5, 4));
  }

  private static void put() {
    DUE.sentence("3: put -1; -2");
    int[][] bad = {{0, -1}, {0, 10}, {0, MIN}, {0, MAX}, {1, -1}, {1, 10}, {1, MIN}, {1, MAX},
        {2, -1}, {2, 13}, {2, MIN}, {2, MAX}, {3, -1}, {3, 1 << 30}, {3, MIN}, {3, MAX},
        {-1, 0}, {4, 0}, {MIN, 0}, {MAX, 0}};
    for (int[] b : bad) {
      String call = ", " + b[0] + ", " + b[1] + ")";
      refused("put(2" + call, -1, RefusedTest::some, x -> x.put(2, b[0], b[1]));
      refused("put(3" + call, -1, RefusedTest::some, x -> x.put(3, b[0], b[1]));
    }
    for (int nobody : NOBODY) {
      for (int what = 0; what < 4; what++) {
        int which = what;
        refused("put(" + nobody + ", " + which + ", 1)", -2, RefusedTest::some,
            x -> x.put(nobody, which, 1));
      }
    }
    refused("put(8, 0, 1)", -2, RefusedTest::full, x -> x.put(8, 0, 1));
  }

  private static void meet() {
    DUE.sentence("4: meet -1; -2; -3 the same one");
    for (int value : new int[] {-1, 2, MIN, MAX}) {
      refused("meet(0, 1, " + value + ")", -1, RefusedTest::some, x -> x.meet(0, 1, value));
      refused("meet(0, 3, " + value + ")", -1, RefusedTest::some, x -> x.meet(0, 3, value));
      refused("meet(1, 1, " + value + ")", -1, RefusedTest::some, x -> x.meet(1, 1, value));
    }
    for (int nobody : NOBODY) {
      refused("meet(" + nobody + ", 1, 0)", -2, RefusedTest::some, x -> x.meet(nobody, 1, 0));
      refused("meet(1, " + nobody + ", 0)", -2, RefusedTest::some, x -> x.meet(1, nobody, 0));
      refused("meet(" + nobody + ", the same)", -2, RefusedTest::some,
          x -> x.meet(nobody, nobody, 0));
    }
    for (int same = 0; same < 3; same++) {
      int one = same;
      refused("meet the same one, 0", -3, RefusedTest::some, x -> x.meet(one, one, 0));
      refused("meet the same one, 1", -3, RefusedTest::some, x -> x.meet(one, one, 1));
    }
    refused("meet(8, 0, 1)", -2, RefusedTest::full, x -> x.meet(8, 0, 1));
    refused("meet(7, 7, 1)", -3, RefusedTest::full, x -> x.meet(7, 7, 1));
  }

  private static void art() {
    DUE.sentence("5: art -1; -5");
    int[][] bad = {{0, 1}, {7, 1}, {-1, 1}, {MIN, 1}, {MAX, 1}, {1, 0}, {1, 4}, {1, -1}, {1, MIN},
        {1, MAX}};
    for (int[] b : bad) {
      String call = "art(" + b[0] + ", " + b[1] + ")";
      refused(call, -1, RefusedTest::some, x -> x.art(b[0], b[1]));
      refused(call + ", no room", -1, RefusedTest::full, x -> x.art(b[0], b[1]));
    }
    refused("art(1, 1), no room", -5, RefusedTest::full, x -> x.art(1, 1));
  }

  private static void rule() {
    DUE.sentence("6: rule -1 (NEEDS itself, one that is not there, too); -2");
    int[][] bad = {{0, 0}, {0, 7}, {0, MIN}, {0, MAX}, {1, 0}, {1, 4}, {1, MIN}, {1, MAX}, {2, 0},
        {2, 10}, {2, MIN}, {2, MAX}, {3, -1}, {3, 4}, {3, 8}, {3, 16}, {3, 32}, {3, MIN}, {3, MAX},
        {4, 1}, {-1, 1}, {MIN, 1}, {MAX, 1}};
    for (int[] b : bad) {
      String call = ", " + b[0] + ", " + b[1] + ")";
      refused("rule(0" + call, -1, RefusedTest::some, x -> x.rule(0, b[0], b[1]));
      refused("rule(2" + call, -1, RefusedTest::some, x -> x.rule(2, b[0], b[1]));
    }
    refused("rule(0, 3, 1), itself", -1, RefusedTest::some, x -> x.rule(0, 3, 1));
    refused("rule(1, 3, 2), itself", -1, RefusedTest::some, x -> x.rule(1, 3, 2));
    refused("rule(1, 3, 3), itself too", -1, RefusedTest::some, x -> x.rule(1, 3, 3));
    refused("rule(4, 3, 31), itself too", -1, RefusedTest::full, x -> x.rule(4, 3, 31));
    refused("rule(4, 3, 32)", -1, RefusedTest::full, x -> x.rule(4, 3, 32));
    for (int none : NO_ART) {
      for (int what = 0; what < 4; what++) {
        int which = what;
        refused("rule(" + none + ", " + which + ", 1)", -2, RefusedTest::some,
            x -> x.rule(none, which, 1));
      }
      refused("rule(" + none + ", 3, 0)", -2, RefusedTest::some, x -> x.rule(none, 3, 0));
    }
  }

  private static void know() {
    DUE.sentence("7: know -1; -2");
    for (int level : new int[] {-1, 10, MIN, MAX}) {
      refused("know(0, 0, " + level + ")", -1, RefusedTest::some, x -> x.know(0, 0, level));
      refused("know(3, 0, " + level + ")", -1, RefusedTest::some, x -> x.know(3, 0, level));
      refused("know(0, 2, " + level + ")", -1, RefusedTest::some, x -> x.know(0, 2, level));
    }
    for (int nobody : NOBODY) {
      refused("know(" + nobody + ", 1, 1)", -2, RefusedTest::some, x -> x.know(nobody, 1, 1));
    }
    for (int none : NO_ART) {
      refused("know(1, " + none + ", 1)", -2, RefusedTest::some, x -> x.know(1, none, 1));
    }
    refused("know(8, 5, 1)", -2, RefusedTest::full, x -> x.know(8, 5, 1));
  }

  private static void row() {
    DUE.sentence("11: row, the TAPE is empty then (not if -2). -2; -6 the TAPE is empty");
    for (int none : NO_ART) {
      refused("row(" + none + ")", -2, RefusedTest::some, x -> x.row(none));
      refused("row(" + none + ") of an empty TAPE", -2, RefusedTest::someWithoutTape,
          x -> x.row(none));
    }
    refused("row(0) of an empty TAPE", -6, RefusedTest::someWithoutTape, x -> x.row(0));
    refused("row(1) of an empty TAPE", -6, RefusedTest::someWithoutTape, x -> x.row(1));
    refused("row(5) of 400 bytes", -2, RefusedTest::full, x -> x.row(5));
  }

  private static HandedOn someWithoutTape() {
    HandedOn x = some();
    x.end(0);
    return x;
  }

  private static void lawOfBadText() {
    DUE.sentence("13: law, the TAPE is empty then; -6 (blanks alone: FAULT at the end)");
    String[] texts = {"", " ", "refuses if", "learnt 1001", "refuses;", ";", "learnt ?"};
    int[] faults = {0, 1, 10, 7, 8, 0, 7};
    for (int i = 0; i < texts.length; i++) {
      String text = texts[i];
      DUE.is("fault() of " + text, someBehind(text).fault(), faults[i]);
      refused("law() of " + text, -6, () -> someBehind(text), x -> Due.law(x, text));
    }
  }

  // It has had the same law() once, so that FAULT and the TAPE are as that leaves them.
  private static HandedOn someBehind(String text) {
    HandedOn x = some();
    Due.law(x, text);
    return x;
  }

  private static void lawWithoutRoom() {
    DUE.sentence("13: law -5 (ahead of reading it; the TAPE is empty then, too)");
    refusedBut("law() of a bad text", -5, RefusedTest::full, HandedOn::law, twin -> twin.end(0));
    refusedBut("law() of a good text", -5, RefusedTest::full, x -> Due.law(x, "refuses"),
        twin -> twin.end(0));
    refusedBut("law() of no text", -5, RefusedTest::full, x -> Due.law(x, ""),
        twin -> twin.end(0));
  }

  private static void force() {
    DUE.sentence("15: force -2");
    for (int law : new int[] {1, 5, 6, 31, -2, MIN, MAX}) {
      refused("force(" + law + ")", -2, RefusedTest::some, x -> x.force(law));
    }
    for (int law : new int[] {6, 7, -2, MIN, MAX}) {
      refused("force(" + law + ")", -2, RefusedTest::full, x -> x.force(law));
    }
  }

  private static void show() {
    DUE.sentence("17: show -1 (DAY 0 .. 29, bits of PEOPLE that are there, 0 too); -2; -5");
    int[][] bad = {{-1, 1}, {30, 1}, {MIN, 1}, {MAX, 1}, {0, 8}, {0, 9}, {0, 16}, {0, 256},
        {0, 1 << 30}, {0, -1}, {0, MIN}, {0, MAX}};
    for (int[] b : bad) {
      String call = "show(" + b[0] + ", .., " + b[1] + ")";
      refused(call, -1, RefusedTest::some, x -> x.show(b[0], 0, 0, b[1]));
      refused(call + " of nobody", -1, RefusedTest::some, x -> x.show(b[0], 3, 2, b[1]));
    }
    for (int nobody : NOBODY) {
      refused("show(0, " + nobody + ", 0, 1)", -2, RefusedTest::some, x -> x.show(0, nobody, 0, 1));
    }
    for (int none : NO_ART) {
      refused("show(0, 0, " + none + ", 1)", -2, RefusedTest::some, x -> x.show(0, 0, none, 1));
    }
    refused("show(0, 0, 0, 1), the 61st", -5, RefusedTest::full, x -> x.show(0, 0, 0, 1));
    refused("show(30, 0, 0, 1), the 61st", -1, RefusedTest::full, x -> x.show(30, 0, 0, 1));
    refused("show(0, 0, 0, 256), the 61st", -1, RefusedTest::full, x -> x.show(0, 0, 0, 256));
    refused("show(0, 8, 0, 1), the 61st", -2, RefusedTest::full, x -> x.show(0, 8, 0, 1));
    refused("show(0, 0, 5, 1), the 61st", -2, RefusedTest::full, x -> x.show(0, 0, 5, 1));
  }

  private static void wrong() {
    DUE.sentence("18: wrong -1; -2");
    for (int value : new int[] {-1, 2, MIN, MAX}) {
      refused("wrong(1, " + value + ")", -1, RefusedTest::some, x -> x.wrong(1, value));
      refused("wrong(2, " + value + ")", -1, RefusedTest::some, x -> x.wrong(2, value));
    }
    for (int showing : new int[] {2, 59, 60, -1, MIN, MAX}) {
      refused("wrong(" + showing + ", 1)", -2, RefusedTest::some, x -> x.wrong(showing, 1));
    }
    refused("wrong(60, 1)", -2, RefusedTest::full, x -> x.wrong(60, 1));
  }

  private static void talk() {
    DUE.sentence("36: talk -2; -3 the same one, they do not MEET");
    for (int nobody : NOBODY) {
      refused("talk(" + nobody + ", 1)", -2, RefusedTest::some, x -> x.talk(nobody, 1));
      refused("talk(1, " + nobody + ")", -2, RefusedTest::some, x -> x.talk(1, nobody));
      refused("talk(" + nobody + ", the same)", -2, RefusedTest::some, x -> x.talk(nobody, nobody));
    }
    for (int same = 0; same < 3; same++) {
      int one = same;
      refused("talk of the same one", -3, RefusedTest::some, x -> x.talk(one, one));
    }
    refused("talk(1, 2)", -3, RefusedTest::some, x -> x.talk(1, 2));
    refused("talk(2, 1)", -3, RefusedTest::some, x -> x.talk(2, 1));
    refused("talk(8, 0)", -2, RefusedTest::full, x -> x.talk(8, 0));
  }

  private static void week() {
    DUE.sentence("39: week -1; -2");
    for (int seed : new int[] {-1, 1_000_001, 1_000_003, MIN, MAX}) {
      refused("week(0, " + seed + ")", -1, RefusedTest::some, x -> x.week(0, seed));
      refused("week(2, " + seed + ")", -1, RefusedTest::some, x -> x.week(2, seed));
    }
    for (int none : NO_ART) {
      refused("week(" + none + ", 0)", -2, RefusedTest::some, x -> x.week(none, 0));
    }
    refused("week(5, 0)", -2, RefusedTest::full, x -> x.week(5, 0));
  }

  private static void image() {
    DUE.sentence("41: image -1");
    for (int k : new int[] {-1, 2, MIN, MAX}) {
      refused("image(" + k + ")", -1, RefusedTest::some, x -> x.image(k));
    }
  }

  private static void back() {
    DUE.sentence("42: back -1; -2 it was not kept");
    for (int k : new int[] {-1, 2, MIN, MAX}) {
      refused("back(" + k + ")", -1, RefusedTest::some, x -> x.back(k));
    }
    refused("back(1)", -2, RefusedTest::some, x -> x.back(1));
    refused("back(0)", -2, RefusedTest::full, x -> x.back(0));
  }

  private static void nothingThere() {
    DUE.sentence("I: -2 there is no such one, ART, LAW, SHOWING, IMAGE");
    refused("put(0, 0, 0)", -2, RefusedTest::empty, x -> x.put(0, 0, 0));
    refused("meet(0, 1, 0)", -2, RefusedTest::empty, x -> x.meet(0, 1, 0));
    refused("meet(0, 0, 0)", -2, RefusedTest::empty, x -> x.meet(0, 0, 0));
    refused("rule(0, 0, 1)", -2, RefusedTest::empty, x -> x.rule(0, 0, 1));
    refused("know(0, 0, 0)", -2, RefusedTest::empty, x -> x.know(0, 0, 0));
    refused("row(0)", -2, RefusedTest::empty, x -> x.row(0));
    refused("force(0)", -2, RefusedTest::empty, x -> x.force(0));
    refused("show(0, 0, 0, 0)", -2, RefusedTest::empty, x -> x.show(0, 0, 0, 0));
    refused("wrong(0, 0)", -2, RefusedTest::empty, x -> x.wrong(0, 0));
    refused("talk(0, 1)", -2, RefusedTest::empty, x -> x.talk(0, 1));
    refused("week(0, 0)", -2, RefusedTest::empty, x -> x.week(0, 0));
    refused("back(0)", -2, RefusedTest::empty, x -> x.back(0));
    refused("back(1)", -2, RefusedTest::empty, x -> x.back(1));
    refused("show(0, 0, 0, 1): nobody is there", -1, RefusedTest::empty, x -> x.show(0, 0, 0, 1));
  }

  private static void firstOfTheReasons() {
    DUE.sentence("I: the first of these in that order");
    refused("put: -1 ahead of -2", -1, RefusedTest::empty, x -> x.put(0, 4, 0));
    refused("meet: -1 ahead of -2, -3", -1, RefusedTest::empty, x -> x.meet(0, 0, 2));
    refused("meet: -2 ahead of -3", -2, RefusedTest::empty, x -> x.meet(0, 0, 1));
    refused("rule: -1 ahead of -2", -1, RefusedTest::empty, x -> x.rule(0, 3, 1));
    refused("know: -1 ahead of -2", -1, RefusedTest::empty, x -> x.know(0, 0, 10));
    refused("row: -2 ahead of -6", -2, RefusedTest::empty, x -> x.row(0));
    refused("show: -1 ahead of -2", -1, RefusedTest::empty, x -> x.show(30, 0, 0, 0));
    refused("show: -1 ahead of -5", -1, RefusedTest::full, x -> x.show(-1, 0, 0, 0));
    refused("show: -2 ahead of -5", -2, RefusedTest::full, x -> x.show(0, 0, 5, 0));
    refused("wrong: -1 ahead of -2", -1, RefusedTest::empty, x -> x.wrong(0, 2));
    refused("talk: -2 ahead of -3", -2, RefusedTest::empty, x -> x.talk(0, 0));
    refused("week: -1 ahead of -2", -1, RefusedTest::empty, x -> x.week(0, -1));
    refused("one: -1 ahead of -5", -1, RefusedTest::full, x -> x.one(10, 0, 0));
    refused("art: -1 ahead of -5", -1, RefusedTest::full, x -> x.art(0, 1));
    refusedBut("law: -5 ahead of -6", -5, RefusedTest::full, x -> Due.law(x, ";"),
        twin -> twin.end(0));
  }

  private static void countedOneByOne() {
    DUE.sentence("43: 5 .. 9 how many calls were REFUSED by -1, -2, -3, -5, -6");
    HandedOn x = full();
    for (int i = 1; i <= 3; i++) {
      x.one(10, 0, 0);
      x.put(8, 0, 0);
      x.talk(0, 0);
      x.art(1, 1);
      x.end(0);
      x.row(0);
      for (int what = 5; what <= 9; what++) {
        DUE.is("count(" + what + ")", x.count(what), i);
      }
    }
  }

  private static void statusOfTheLatest() {
    DUE.sentence("44: status, 0 if it was not REFUSED");
    HandedOn x = some();
    List<ToIntFunction<HandedOn>> taken = List.of(y -> y.one(0, 0, 0), y -> y.put(0, 0, 1),
        y -> y.meet(0, 1, 1), y -> y.art(1, 1), y -> y.rule(0, 0, 1), y -> y.know(0, 0, 1),
        y -> y.row(0), y -> Due.law(y, "refuses"), y -> y.force(-1), y -> y.show(0, 0, 0, 0),
        y -> y.wrong(0, 0), y -> y.talk(0, 1), y -> y.week(0, 0), y -> y.image(1),
        y -> y.back(1));
    for (int i = 0; i < taken.size(); i++) {
      DUE.refused(x, "put ahead of taken call " + i, x.put(9, 0, 0), -2);
      taken.get(i).applyAsInt(x);
      DUE.is("status() behind taken call " + i, x.status(), 0);
    }
    x.put(9, 0, 0);
    DUE.is("status() stays till the next", x.status(), -2);
    DUE.is("status() asked again", x.status(), -2);
  }
}
