/** Term V and promises 11, 12, 36 to 40: each sentence that names an edge of ROWS, TALKS, WEEKS. */
public final class RowTalkWeekEdgesTest {
  private static final Due DUE = new Due("RowTalkWeekEdgesTest");
  private static final int NONE = HandedOn.NONE;

  public static void main(String[] args) {
    rowAboveNine();
    rowBeyondPeople();
    rowOfTheWholeTape();
    slackOfTheLatest();
    heardAtFirst();
    talkOfTwo();
    talkNothingNew();
    talkOfTheSame();
    talkBehindANewOne();
    talksOfN();
    talksAreEnough();
    seeds();
    drawsRoundTheModulo();
    wrongNothingAndAll();
    spoiltNotBelowNothing();
    levelOneAtTheBeginning();
    weekDays();
    weekNobody();
    anotherOneThatIsThere();
    shownOnceADay();
    theGreater();
    askedInAWeek();
    drawnDays();
    drawnOfTheLatest();
    DUE.end();
  }

  private static void rowAboveNine() {
    DUE.sentence("V: one above 9 is SLACK: nothing");
    for (int level = 0; level < 256; level++) {
      HandedOn x = Due.crowd(3, 4, 1, 1);
      for (int i = 0; i < 3; i++) {
        x.know(i, 0, 3);
      }
      x.feed(level << 24 | 4 << 16 | level << 8, 0, 0, 0, 0);
      x.end(3);
      boolean slack = level > 9;
      DUE.taken(x, "row of " + level, x.row(0), slack ? 1 : 3);
      DUE.is("slack() of " + level, x.slack(), slack ? 2 : 0);
      DUE.is("of(0, 5)", x.of(0, 5), slack ? 3 : level);
      DUE.is("of(1, 5)", x.of(1, 5), 4);
      DUE.is("of(2, 5)", x.of(2, 5), slack ? 3 : level);
    }
  }

  private static void rowBeyondPeople() {
    DUE.sentence("V: or beyond the PEOPLE, is SLACK; those without a byte are left as they are");
    for (int people = 0; people <= 8; people++) {
      for (int bytes = 1; bytes <= 10; bytes++) {
        HandedOn x = Due.crowd(people, 4, 1, 1);
        for (int i = 0; i < people; i++) {
          x.know(i, 0, 9);
        }
        x.feed(0x01020304, 0x05060708, 0x01010101, 0, 0);
        x.end(bytes);
        DUE.taken(x, "row of " + bytes + " for " + people, x.row(0), Math.min(people, bytes));
        DUE.is("slack()", x.slack(), Math.max(0, bytes - people));
        DUE.is("count(4): empty then", x.count(4), 0);
        for (int i = 0; i < people; i++) {
          DUE.is("of(" + i + ", 5)", x.of(i, 5), i < bytes ? i + 1 : 9);
        }
      }
    }
  }

  private static void rowOfTheWholeTape() {
    DUE.sentence("V: a ROW: the TAPE's bytes, 400 at most");
    HandedOn x = Due.crowd(8, 4, 1, 1);
    for (int i = 0; i < 20; i++) {
      x.feed(0x09090909, 0x09090909, 0x09090909, 0x09090909, 0x09090909);
    }
    DUE.taken(x, "row of 400", x.row(0), 8);
    DUE.is("slack()", x.slack(), 392);
    DUE.is("of(7, 5)", x.of(7, 5), 9);
    DUE.refused(x, "row of an empty TAPE", x.row(0), -6);
    DUE.is("slack() stays", x.slack(), 392);
    DUE.is("feed", x.feed(0, 0, 0, 0, 0), 20);
  }

  private static void slackOfTheLatest() {
    DUE.sentence("12: SLACK in the latest row() that was not REFUSED (0 ahead of any)");
    HandedOn x = Due.crowd(2, 4, 1, 1);
    DUE.is("slack() ahead of any", x.slack(), 0);
    DUE.refused(x, "row(0)", x.row(0), -6);
    DUE.is("slack() behind a REFUSED one", x.slack(), 0);
    x.feed(0, 0, 0, 0, 0);
    DUE.refused(x, "row(1)", x.row(1), -2);
    DUE.is("slack() behind a REFUSED one", x.slack(), 0);
    DUE.is("count(4): not if -2", x.count(4), 20);
    x.row(0);
    DUE.is("slack()", x.slack(), 18);
    x.row(0);
    x.row(1);
    DUE.is("slack() behind REFUSED ones", x.slack(), 18);
    x.feed(0, 0, 0, 0, 0);
    x.law();
    DUE.is("slack() behind law()", x.slack(), 18);
    x.feed(0, 0, 0, 0, 0);
    x.end(2);
    x.row(0);
    DUE.is("slack() of a ROW without", x.slack(), 0);
  }

  private static void heardAtFirst() {
    DUE.sentence("V: at first each has heard its own alone");
    HandedOn x = new HandedOn();
    for (int i = 0; i < 8; i++) {
      DUE.is("heard of one not there yet", x.heard(i), NONE);
      x.one(1, 1, 1);
      DUE.is("heard(" + i + ")", x.heard(i), 1 << i);
    }
    DUE.is("heard(8)", x.heard(8), NONE);
    DUE.is("heard(-2)", x.heard(-2), NONE);
    DUE.is("heard(NONE): no TALK", x.heard(NONE), 0);
  }

  private static void talkOfTwo() {
    DUE.sentence("36: a TALK of two: how many of all have heard all now");
    for (int people = 2; people <= 8; people++) {
      HandedOn x = Due.crowd(people, 4, 1, 1);
      for (int i = 1; i < people; i++) {
        int due = i == people - 1 ? 2 : 0;
        DUE.taken(x, "talk(0, " + i + ") of " + people, x.talk(0, i), due);
        DUE.is("heard(0)", x.heard(0), (2 << i) - 1);
        DUE.is("heard(" + i + ")", x.heard(i), (2 << i) - 1);
      }
      for (int i = 1; i < people - 1; i++) {
        DUE.taken(x, "talk(" + i + ", 0) of " + people, x.talk(i, 0), 2 + i);
      }
      DUE.is("heard(NONE)", x.heard(NONE), people - 1 + people - 2);
    }
  }

  private static void talkNothingNew() {
    DUE.sentence("V: a TALK counts, also if nothing new is told");
    HandedOn x = Due.crowd(2, 4, 1, 1);
    for (int i = 1; i <= 100; i++) {
      DUE.taken(x, "talk", x.talk(i % 2, 1 - i % 2), 2);
      DUE.is("heard(NONE)", x.heard(NONE), i);
    }
  }

  private static void talkOfTheSame() {
    DUE.sentence("36: -3 the same one, they do not MEET");
    HandedOn x = Due.crowd(3, 4, 1, 1);
    x.meet(0, 1, 0);
    for (int one = -1; one <= 3; one++) {
      for (int other = -1; other <= 3; other++) {
        boolean there = one >= 0 && one < 3 && other >= 0 && other < 3;
        boolean meeting = one != other && one + other != 1;
        int got = x.talk(one, other);
        String call = "talk(" + one + ", " + other + ")";
        DUE.is(call, got < 0 ? got : 0, !there ? -2 : meeting ? 0 : -3);
        DUE.is("status() behind " + call, x.status(), !there ? -2 : meeting ? 0 : -3);
      }
    }
    DUE.is("heard(NONE): 0 with 2, 1 with 2, both ways", x.heard(NONE), 4);
    x.meet(0, 1, 1);
    DUE.taken(x, "talk(0, 1), they MEET again", x.talk(0, 1), 3);
  }

  private static void talkBehindANewOne() {
    DUE.sentence("36: how many of all have heard all now: one more is there");
    HandedOn x = Due.crowd(2, 4, 1, 1);
    DUE.taken(x, "talk(0, 1)", x.talk(0, 1), 2);
    x.one(1, 1, 1);
    DUE.taken(x, "talk(0, 1): not of 2", x.talk(0, 1), 0);
    DUE.taken(x, "talk(1, 2)", x.talk(1, 2), 2);
    DUE.is("heard(0)", x.heard(0), 3);
    DUE.is("heard(2)", x.heard(2), 7);
  }

  private static void talksOfN() {
    DUE.sentence("V: for n (1 .. 12): 0, 1, 3 for 1, 2, 3, else 2 n - 4");
    HandedOn x = new HandedOn();
    int[] due = {NONE, 0, 1, 3, 4, 6, 8, 10, 12, 14, 16, 18, 20, NONE};
    for (int n = 0; n < due.length; n++) {
      DUE.is("talks(" + n + ")", x.talks(n), due[n]);
    }
    for (int n : new int[] {-1, 14, Integer.MIN_VALUE, Integer.MAX_VALUE, 1 << 30}) {
      DUE.is("talks(" + n + ")", x.talks(n), NONE);
    }
  }

  private static void talksAreEnough() {
    DUE.sentence("V: the fewest TALKS behind which all have heard all");
    for (int n = 4; n <= 8; n++) {
      HandedOn x = Due.crowd(n, 4, 1, 1);
      for (int i = 4; i < n; i++) {
        x.talk(0, i);
      }
      x.talk(0, 1);
      x.talk(2, 3);
      x.talk(0, 2);
      int all = x.talk(1, 3);
      for (int i = 4; i < n; i++) {
        DUE.is("not all ahead of the last TALK", all < n ? 1 : 0, 1);
        all = x.talk(0, i);
      }
      DUE.is("all have heard all", all, n);
      DUE.is("talks(" + n + ")", x.talks(n), x.heard(NONE));
    }
  }

  private static void seeds() {
    DUE.sentence("V: the SEED (0 .. 1,000,000)");
    HandedOn x = Due.crowd(2, 4, 1, 1);
    for (int seed : new int[] {0, 1, 999_999, 1_000_000}) {
      DUE.taken(x, "week(0, " + seed + ")", x.week(0, seed), 0);
    }
    for (int seed : new int[] {-1, 1_000_001, 1_000_002, 1_000_003, Integer.MIN_VALUE,
        Integer.MAX_VALUE}) {
      DUE.refused(x, "week(0, " + seed + ")", x.week(0, seed), -1);
      DUE.refused(x, "week(1, " + seed + ")", x.week(1, seed), -1);
    }
    for (int art : new int[] {1, 4, 5, -1, Integer.MIN_VALUE, Integer.MAX_VALUE}) {
      DUE.refused(x, "week(" + art + ", 0)", x.week(art, 0), -2);
    }
  }

  private static long next(long s) {
    return (s * 1103 + 12345) % 1_000_003;
  }

  /** 0 shows, 1 never learns it: on each DAY a DRAW of 2, and one of 100, if that was 1. */
  private static void isSpoilt(HandedOn x, int seed, int wrong) {
    long s = seed;
    int due = 0;
    for (int day = 0; day < 7; day++) {
      s = next(s);
      if (s % 2 == 1) {
        s = next(s);
        due += s % 100 < wrong ? 1 : 0;
      }
    }
    DUE.taken(x, "week(0, " + seed + ")", x.week(0, seed), 1);
    DUE.is("SPOILT of SEED " + seed + ", wrong " + wrong, x.drawn(0, NONE), due);
  }

  private static HandedOn spoiling(String wrong) {
    HandedOn x = Due.crowd(2, 4, 1, 1);
    x.know(0, 0, 9);
    Due.law(x, "learnt 0;wrong " + wrong);
    x.force(0);
    return x;
  }

  private static void drawsRoundTheModulo() {
    DUE.sentence("V: DRAWS: s becomes (s times 1103 and 12345) modulo 1,000,003");
    HandedOn x = spoiling("50");
    int found = 0;
    for (int seed = 0; seed <= 1_000_000; seed++) {
      long s = next(seed);
      if (s <= 1 || s >= 1_000_001) {
        isSpoilt(x, seed, 50);
        found++;
      }
    }
    DUE.is("SEEDS whose first DRAW is at an edge", found >= 3 ? 1 : 0, 1);
    for (int seed = 0; seed < 70; seed++) {
      isSpoilt(x, seed, 50);
      isSpoilt(x, 1_000_000 - seed, 50);
    }
  }

  private static void wrongNothingAndAll() {
    DUE.sentence("V: below what \"wrong\" tells (0 .. 100, else the nearest; 0 without)");
    String[] told = {"0", "1", "99", "100", "101", "1000", "0-1", "1/0"};
    int[] wrong = {0, 1, 99, 100, 100, 100, 0, 0};
    for (int i = 0; i < told.length; i++) {
      HandedOn x = spoiling(told[i]);
      for (int seed = 0; seed < 150; seed++) {
        isSpoilt(x, seed, wrong[i]);
      }
    }
    HandedOn x = spoiling("100");
    x.force(NONE);
    x.know(0, 0, 1);
    for (int seed = 0; seed < 50; seed++) {
      isSpoilt(x, seed, 0);
    }
  }

  private static void spoiltNotBelowNothing() {
    DUE.sentence("V: SPOILT: one LEVEL less is HANDED, not below 0");
    for (int learnt = 0; learnt <= 9; learnt++) {
      HandedOn x = Due.crowd(2, 4, 1, 1);
      x.know(0, 0, 9);
      Due.law(x, "wrong 100;learnt " + learnt + " if day=0 and learner=1;learnt 0 if day>0");
      x.force(0);
      int due = Math.max(0, learnt - 1);
      DUE.taken(x, "week(0, 0)", x.week(0, 0), due > 0 ? 2 : 1);
      DUE.is("drawn(0, 1), HANDED " + learnt + ", SPOILT", x.drawn(0, 1), due);
      DUE.is("drawn(0, NONE) tells it", x.drawn(0, NONE) > 0 ? 1 : 0, 1);
    }
  }

  private static void levelOneAtTheBeginning() {
    DUE.sentence("V: who have LEVEL 1 at the beginning of the DAY at least");
    for (int level = 0; level <= 2; level++) {
      HandedOn x = Due.crowd(2, 4, 1, 1);
      x.know(0, 0, level);
      Due.law(x, "learnt 4");
      x.force(0);
      // SEED 0: the first DRAW is 12345, so on DAY 0 it draws 1.
      DUE.is("week, LEVEL " + level, x.week(0, 0), level == 0 ? 0 : 2);
      DUE.is("drawn(0, 1)", x.drawn(0, 1), level == 0 ? 0 : 4);
      DUE.is("drawn(0, 0)", x.drawn(0, 0), level);
    }
  }

  private static void weekDays() {
    DUE.sentence("V: a WEEK: DAYS 0 .. 6, who are not AWAY");
    for (int day = 0; day < 7; day++) {
      HandedOn x = Due.crowd(2, 4, 1, 1);
      x.know(0, 0, 9);
      x.put(0, 3, (1 << 30) - 1 & ~(1 << day));
      // The only DRAW is on that DAY: 12345, of 2 it is 1.
      DUE.is("week, there on DAY " + day, x.week(0, 0), 2);
      for (int d = 0; d < 7; d++) {
        DUE.is("drawn(" + d + ", 1)", x.drawn(d, 1), d < day ? 0 : 8);
      }
      x.put(1, 3, 1 << day);
      DUE.is("week, the other is AWAY on DAY " + day, x.week(0, 0), 1);
      x.put(1, 3, (1 << 30) - 1 & ~(1 << day));
      DUE.is("week, both are there on DAY " + day, x.week(0, 0), 2);
    }
    HandedOn x = Due.crowd(2, 4, 1, 1);
    x.know(0, 0, 9);
    x.put(0, 3, 127);
    DUE.is("week, AWAY on DAYS 0 .. 6", x.week(0, 0), 1);
    x.put(0, 3, (1 << 30) - 128);
    DUE.is("week, AWAY from DAY 7 on", x.week(0, 0), 2);
  }

  private static void weekNobody() {
    DUE.sentence("39: how many have LEVEL 1 at least behind it: nobody, one alone");
    HandedOn x = Due.crowd(0, 4, 1, 1);
    DUE.taken(x, "week of nobody", x.week(0, 0), 0);
    DUE.is("drawn(0, NONE)", x.drawn(0, NONE), 0);
    DUE.is("drawn(0, 0)", x.drawn(0, 0), NONE);
    HandedOn y = Due.crowd(1, 4, 1, 1);
    DUE.taken(y, "week of one that does not KNOW it", y.week(0, 1_000_000), 0);
    y.know(0, 0, 9);
    Due.law(y, "wrong 100");
    y.force(0);
    DUE.taken(y, "week of one alone: it draws itself", y.week(0, 1_000_000), 1);
    DUE.is("drawn(6, 0)", y.drawn(6, 0), 9);
    DUE.is("drawn(0, NONE)", y.drawn(0, NONE), 0);
    HandedOn z = Due.crowd(8, 0, 6, 1);
    for (int i = 0; i < 8; i++) {
      z.know(i, 0, 1);
    }
    DUE.taken(z, "week of eight who KNOW it, without HOURS", z.week(0, 5), 8);
  }

  private static void anotherOneThatIsThere() {
    DUE.sentence("V: if that one is another one, not AWAY, MEETS it");
    HandedOn x = Due.crowd(2, 4, 1, 1);
    x.know(0, 0, 9);
    x.meet(0, 1, 0);
    for (int seed = 0; seed < 20; seed++) {
      DUE.is("week, they do not MEET", x.week(0, seed), 1);
    }
    x.meet(0, 1, 1);
    x.put(1, 3, 127);
    for (int seed = 0; seed < 20; seed++) {
      DUE.is("week, the other is AWAY", x.week(0, seed), 1);
    }
    x.put(1, 3, 0);
    x.put(1, 2, 0);
    x.put(0, 2, 0);
    DUE.is("week, neither has HOURS", x.week(0, 0), 2);
  }

  /** 0 and 1 show on DAY 0 alone: whom both of them draw, is shown by the first of them. */
  private static void shownOnceADay() {
    DUE.sentence("V: and was not shown it that DAY yet: a DRAW of 100");
    for (int seed = 0; seed < 60; seed++) {
      HandedOn x = Due.crowd(3, 4, 1, 1);
      x.know(0, 0, 9);
      x.know(1, 0, 5);
      for (int i = 0; i < 3; i++) {
        x.put(i, 3, 126);
      }
      Due.law(x, "wrong 50;learnt knows-1");
      x.force(0);
      long s = next(seed);
      int a = (int) (s % 3);
      int spoilt = 0;
      int[] due = {9, 5, 0};
      if (a != 0) {
        s = next(s);
        int bad = s % 100 < 50 ? 1 : 0;
        spoilt += bad;
        due[a] = Math.max(due[a], 8 - bad);
      }
      s = next(s);
      int b = (int) (s % 3);
      if (b != 1 && (b != a || a == 0)) {
        s = next(s);
        int bad = s % 100 < 50 ? 1 : 0;
        spoilt += bad;
        due[b] = Math.max(due[b], 4 - bad);
      }
      x.week(0, seed);
      for (int i = 0; i < 3; i++) {
        DUE.is("SEED " + seed + ", drawn(6, " + i + ")", x.drawn(6, i), due[i]);
      }
      DUE.is("SEED " + seed + ", drawn(0, NONE)", x.drawn(0, NONE), spoilt);
    }
  }

  private static void theGreater() {
    DUE.sentence("V: at the end of the DAY it has the greater of what it had and is HANDED");
    for (int had = 0; had <= 9; had++) {
      HandedOn x = Due.crowd(2, 4, 1, 1);
      x.know(0, 0, 6);
      x.know(1, 0, had);
      x.put(0, 3, 126);
      x.put(1, 3, 126);
      x.week(0, 0);
      DUE.is("drawn(0, 1), it had " + had, x.drawn(0, 1), Math.max(had, 5));
      DUE.is("of(1, 5): KNOWS stays", x.of(1, 5), had);
    }
  }

  private static void askedInAWeek() {
    DUE.sentence("V: by LEVELS and the LAW in FORCE, once 1");
    String[] words = {"knows", "has", "tell", "learn", "art", "day", "teller", "learner", "once"};
    for (int day = 0; day < 7; day++) {
      for (int teller = 0; teller < 2; teller++) {
        int[] due = {6, 0, 8, 4, 2, day, teller, 1 - teller, 1};
        for (int i = 0; i < words.length; i++) {
          String told = "learnt " + words[i] + "+1";
          DUE.is(told + " on DAY " + day, weekOfOne(told, day, teller).drawn(6, 1 - teller),
              Math.min(9, due[i] + 1));
          String spoils = "wrong 100*[1-[" + words[i] + "-" + due[i] + "]*[" + words[i] + "-"
              + due[i] + "]]";
          DUE.is(spoils + " on DAY " + day, weekOfOne(spoils, day, teller).drawn(0, NONE), 1);
        }
      }
    }
  }

  /** The teller (TELL 8, LEVEL 6) is there on that DAY alone, and draws the other one (LEARN 4). */
  private static HandedOn weekOfOne(String law, int day, int teller) {
    HandedOn x = Due.people(4, 4);
    for (int i = 0; i < 3; i++) {
      x.art(1, 1);
    }
    x.put(teller, 1, 8);
    x.put(1 - teller, 0, 4);
    x.know(teller, 2, 6);
    x.put(teller, 3, (1 << 30) - 1 & ~(1 << day));
    x.put(1 - teller, 3, 127 & -2 << day);
    Due.law(x, law);
    x.force(0);
    // SEED 0 draws 12345, which is odd; SEED 1 draws 13448, which is even.
    x.week(2, teller);
    return x;
  }

  private static void drawnDays() {
    DUE.sentence("40: LEVEL of one behind a DAY 0 .. 6; how many times SPOILT (one NONE, DAY 0)");
    HandedOn x = Due.crowd(8, 4, 1, 1);
    x.know(0, 0, 9);
    for (int one = -1; one < 8; one++) {
      DUE.is("drawn ahead of any WEEK", x.drawn(0, one), NONE);
    }
    x.week(0, 3);
    for (int day = -1; day <= 7; day++) {
      boolean canBe = day >= 0 && day <= 6;
      DUE.is("drawn(" + day + ", 0)", x.drawn(day, 0), canBe ? 9 : NONE);
      DUE.is("drawn(" + day + ", 7) told", x.drawn(day, 7) != NONE ? 1 : 0, canBe ? 1 : 0);
      DUE.is("drawn(" + day + ", 8)", x.drawn(day, 8), NONE);
      DUE.is("drawn(" + day + ", NONE)", x.drawn(day, NONE), day == 0 ? 0 : NONE);
      DUE.is("drawn(" + day + ", -2)", x.drawn(day, -2), NONE);
    }
  }

  private static void drawnOfTheLatest() {
    DUE.sentence("39: a WEEK, kept as the latest");
    HandedOn x = Due.crowd(2, 4, 1, 1);
    x.art(1, 1);
    x.know(0, 0, 9);
    x.know(0, 1, 5);
    x.week(0, 0);
    DUE.is("drawn(0, 0)", x.drawn(0, 0), 9);
    x.week(0, -1);
    x.week(2, 0);
    DUE.is("drawn(0, 0), behind REFUSED ones", x.drawn(0, 0), 9);
    x.week(1, 0);
    DUE.is("drawn(0, 0), of the other ART", x.drawn(0, 0), 5);
    DUE.is("drawn(0, 1)", x.drawn(0, 1), 4);
    x.know(0, 1, 1);
    x.force(NONE);
    DUE.is("drawn(0, 0), what stands now does not matter", x.drawn(0, 0), 5);
  }
}
