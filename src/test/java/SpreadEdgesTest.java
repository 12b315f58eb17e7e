/** Term IV and promises 25 to 31: each sentence that names an edge of how soon all KNOW an ART. */
public final class SpreadEdgesTest {
  private static final Due DUE = new Due("SpreadEdgesTest");
  private static final int NONE = HandedOn.NONE;
  private static final int ALL_DAYS = (1 << 30) - 1;

  public static void main(String[] args) {
    thirtyDays();
    thirtyDaysOneByOne();
    levelOne();
    hoursThroughTakes();
    hoursOfTakesAtLeast();
    timesAtOnce();
    notEnoughForTwo();
    awayOnADay();
    allKnowItAtFirst();
    nobodyKnowsIt();
    nobodyIsThere();
    firstBehindSoonest();
    firstIsTheLowest();
    firstCanWait();
    firstOfEachLast();
    fewestOfEachSize();
    fewestWithoutHours();
    fewestFirst();
    fewestByTheBetter();
    withoutOthers();
    withoutTheOnlyOne();
    leftTheLowest();
    leftNobodyCan();
    startAlone();
    bestTheLowest();
    bestNobodyCan();
    DUE.end();
  }

  private static void thirtyDays() {
    DUE.sentence("IV: the fewest DAYS (from DAY 0 on, 30 at most)");
    for (int day = 0; day <= 30; day++) {
      HandedOn x = Due.crowd(2, 1, 1, 1);
      x.know(0, 0, 1);
      x.put(1, 3, (1 << day) - 1);
      int due = day < 30 ? day + 1 : NONE;
      DUE.is("soonest, AWAY till DAY " + day, x.soonest(0), due);
      DUE.is("start", x.start(0, 0), due);
      DUE.is("start of the other", x.start(0, 1), due);
      DUE.is("best", x.best(0), day < 30 ? 0 : NONE);
      DUE.is("first behind DAY 28", x.first(0, 28), day < 29 ? 3 : day == 29 ? 1 : NONE);
      DUE.is("first behind DAY 29", x.first(0, 29), day < 30 ? 3 : NONE);
      DUE.is("first, at first", x.first(0, NONE), day < 30 ? 1 : NONE);
      DUE.is("first behind DAY 30", x.first(0, 30), NONE);
    }
  }

  private static void thirtyDaysOneByOne() {
    DUE.sentence("IV: the fewest DAYS, 30 at most: one shown on each of the last DAYS");
    for (int there = 6; there <= 8; there++) {
      HandedOn x = Due.crowd(8, 1, 1, 1);
      x.know(0, 0, 1);
      for (int i = 1; i < 8; i++) {
        for (int j = 1; j < i; j++) {
          x.meet(i, j, 0);
        }
      }
      x.put(0, 3, ALL_DAYS >> there);
      DUE.is("soonest, there on " + there + " DAYS", x.soonest(0), there == 6 ? NONE : 37 - there);
      DUE.is("first behind DAY 29", x.first(0, 29), there == 6 ? NONE : 255);
    }
  }

  private static void levelOne() {
    DUE.sentence("IV: those who KNOW it at first (LEVEL 1 and more)");
    for (int level = 0; level <= 9; level++) {
      HandedOn x = Due.crowd(2, 1, 1, 1);
      x.know(0, 0, level);
      DUE.is("soonest, LEVEL " + level, x.soonest(0), level == 0 ? NONE : 1);
      DUE.is("fewest, LEVEL " + level, x.fewest(0, 0), level == 0 ? NONE : 1);
      DUE.is("first, LEVEL " + level, x.first(0, NONE), level == 0 ? NONE : 1);
      x.know(1, 0, level);
      DUE.is("soonest, both", x.soonest(0), level == 0 ? NONE : 0);
      DUE.is("fewest, both", x.fewest(0, 0), level == 0 ? NONE : 0);
    }
  }

  private static void hoursThroughTakes() {
    DUE.sentence("IV: to at most HOURS through TAKES, cut");
    for (int takes = 1; takes <= 6; takes++) {
      for (int hours = 0; hours <= 12; hours++) {
        HandedOn x = Due.crowd(8, 12, takes, 1);
        x.know(0, 0, 1);
        x.put(0, 2, hours);
        for (int i = 1; i < 8; i++) {
          for (int j = 1; j < i; j++) {
            x.meet(i, j, 0);
          }
        }
        int times = hours / takes;
        int due = times == 0 ? NONE : (7 + times - 1) / times;
        DUE.is("soonest, " + hours + " through " + takes, x.soonest(0), due);
      }
    }
  }

  private static void hoursOfTakesAtLeast() {
    DUE.sentence("IV: and have HOURS of TAKES at least");
    for (int takes = 1; takes <= 6; takes++) {
      for (int hours = 0; hours <= 7; hours++) {
        HandedOn x = Due.crowd(2, 12, takes, 3);
        x.know(0, 0, 1);
        x.put(1, 2, hours);
        DUE.is("soonest, " + hours + " of " + takes, x.soonest(0), hours >= takes ? 1 : NONE);
        DUE.is("start of the other", x.start(0, 1), hours >= takes ? 1 : NONE);
      }
    }
    for (int one = 0; one < 8; one++) {
      HandedOn x = Due.crowd(8, 12, 6, 3);
      x.know((one + 1) % 8, 0, 1);
      x.put(one, 2, 5);
      DUE.is("soonest, " + one + " has one hour too few", x.soonest(0), NONE);
      DUE.is("left, " + one + " has one hour too few", x.left(0), one);
      DUE.is("without " + one, x.without(0, one), 1);
      x.put(one, 2, 6);
      DUE.is("soonest, " + one + " has just enough", x.soonest(0), 2);
    }
  }

  private static void timesAtOnce() {
    DUE.sentence("IV: times AT ONCE others; one is shown by one");
    for (int once = 1; once <= 3; once++) {
      for (int people = 2; people <= 8; people++) {
        HandedOn x = Due.crowd(people, 2, 1, once);
        x.know(0, 0, 1);
        int each = 2 * once;
        DUE.is("soonest of " + people + ", " + each + " a DAY", x.soonest(0),
            people - 1 <= each ? 1 : 2);
        x.know(0, 0, 0);
        DUE.is("best", x.best(0), 0);
      }
    }
  }

  private static void notEnoughForTwo() {
    DUE.sentence("IV: one is shown by one: two whom only one MEETS who has the hours for one");
    for (int open = 0; open < 256; open++) {
      if (Integer.bitCount(open) == 3) {
        for (int apart = 0; apart < 8; apart++) {
          if ((open >> apart & 1) != 0) {
            notEnoughForTwo(open, apart);
          }
        }
      }
    }
  }

  /** "busy" MEETS all that are open but the one apart, "idle" that one alone. */
  private static void notEnoughForTwo(int open, int apart) {
    int busy = Integer.numberOfTrailingZeros(~open);
    int idle = Integer.numberOfTrailingZeros(~open & ~(1 << busy));
    HandedOn x = Due.crowd(8, 1, 1, 1);
    for (int i = 0; i < 8; i++) {
      boolean isOpen = (open >> i & 1) != 0;
      x.know(i, 0, isOpen ? 0 : 1);
      x.put(i, 2, isOpen || i == busy ? 1 : i == idle ? 12 : 0);
      for (int j = 0; j < i; j++) {
        x.meet(i, j, 0);
      }
    }
    for (int i = 0; i < 8; i++) {
      if ((open >> i & 1) != 0) {
        x.meet(i == apart ? idle : busy, i, 1);
      }
    }
    DUE.is("open " + open + ", apart " + apart, x.soonest(0), 2);
    x.put(busy, 2, 2);
    DUE.is("enough for both", x.soonest(0), 1);
  }

  private static void awayOnADay() {
    DUE.sentence("IV: and is not AWAY; and that are not AWAY");
    for (int one = 0; one < 3; one++) {
      HandedOn x = Due.crowd(3, 2, 1, 1);
      x.know(0, 0, 1);
      DUE.is("soonest, nobody AWAY", x.soonest(0), 1);
      x.put(one, 3, 1);
      DUE.is("soonest, " + one + " AWAY on DAY 0", x.soonest(0), 2);
      x.put(one, 3, 3);
      DUE.is("soonest, " + one + " AWAY on DAYS 0, 1", x.soonest(0), 3);
      x.put(one, 3, 2);
      DUE.is("soonest, " + one + " AWAY on DAY 1 alone", x.soonest(0), 1);
    }
  }

  private static void allKnowItAtFirst() {
    DUE.sentence("25: 0: all KNOW it at first");
    for (int people = 1; people <= 8; people++) {
      HandedOn x = Due.crowd(people, 0, 6, 1);
      for (int i = 0; i < people; i++) {
        DUE.is("soonest, not all", x.soonest(0), NONE);
        x.know(i, 0, 1);
        x.put(i, 3, ALL_DAYS);
      }
      int all = (1 << people) - 1;
      DUE.is("soonest, all", x.soonest(0), 0);
      DUE.is("first, at first", x.first(0, NONE), all);
      DUE.is("first behind DAY 0", x.first(0, 0), all);
      DUE.is("first behind DAY 29", x.first(0, 29), all);
      DUE.is("fewest", x.fewest(0, 0), 0);
      DUE.is("the FIRST who shows: none", x.fewest(0, 1), NONE);
    }
  }

  private static void nobodyKnowsIt() {
    DUE.sentence("25, 26, 27: NONE (it can't be, too)");
    HandedOn x = Due.crowd(8, 12, 1, 3);
    DUE.is("soonest", x.soonest(0), NONE);
    for (int day = -2; day <= 30; day++) {
      DUE.is("first(0, " + day + ")", x.first(0, day), NONE);
    }
    for (int what = -1; what <= 2; what++) {
      DUE.is("fewest(0, " + what + ")", x.fewest(0, what), NONE);
    }
    DUE.is("left", x.left(0), NONE);
    DUE.is("start, it could be", x.start(0, 0), 1);
  }

  private static void nobodyIsThere() {
    DUE.sentence("IV: without PEOPLE all KNOW it; 29, 31: NONE");
    HandedOn x = Due.crowd(0, 0, 1, 1);
    DUE.is("soonest", x.soonest(0), 0);
    DUE.is("first, at first", x.first(0, NONE), 0);
    DUE.is("first behind DAY 29", x.first(0, 29), 0);
    DUE.is("fewest", x.fewest(0, 0), 0);
    DUE.is("the FIRST who shows", x.fewest(0, 1), NONE);
    DUE.is("without", x.without(0, 0), NONE);
    DUE.is("left", x.left(0), NONE);
    DUE.is("start", x.start(0, 0), NONE);
    DUE.is("best", x.best(0), NONE);
    DUE.is("ring", x.ring(0, 0), NONE);
  }

  private static void firstBehindSoonest() {
    DUE.sentence("26: who KNOWS it behind a DAY (NONE: at first), behind SOONEST: all");
    HandedOn x = Due.crowd(8, 1, 1, 1);
    x.know(7, 0, 1);
    DUE.is("soonest: 1, 2, 4, 8", x.soonest(0), 3);
    DUE.is("first, at first", x.first(0, NONE), 128);
    DUE.is("first behind DAY 0", x.first(0, 0), 128 + 1);
    DUE.is("first behind DAY 1", x.first(0, 1), 128 + 7);
    for (int day = 2; day < 30; day++) {
      DUE.is("first behind DAY " + day, x.first(0, day), 255);
    }
    DUE.is("first(0, 30)", x.first(0, 30), NONE);
    DUE.is("first(0, -2)", x.first(0, -2), NONE);
    DUE.is("first(1, 0)", x.first(1, 0), NONE);
  }

  private static void firstIsTheLowest() {
    DUE.sentence("IV: DAY by DAY the lowest set (as bits) of those who KNOW it then");
    for (int knowing = 0; knowing < 8; knowing++) {
      HandedOn x = Due.crowd(8, 1, 1, 1);
      x.know(knowing, 0, 1);
      int set = 1 << knowing;
      for (int day = 0; day < 3; day++) {
        for (int more = Integer.bitCount(set); more > 0; more--) {
          set |= Integer.lowestOneBit(~set);
        }
        DUE.is("first behind DAY " + day + " from " + knowing, x.first(0, day), set);
      }
    }
  }

  private static void firstCanWait() {
    DUE.sentence("IV: the lowest of those sets which can still do it so soon");
    HandedOn x = Due.crowd(3, 12, 1, 1);
    x.know(0, 0, 1);
    x.put(1, 3, 7);
    DUE.is("soonest: 1 is there on DAY 3", x.soonest(0), 4);
    for (int day = 0; day < 3; day++) {
      DUE.is("first behind DAY " + day + ": 2 can wait", x.first(0, day), 1);
    }
    DUE.is("first behind DAY 3", x.first(0, 3), 7);
    x.put(0, 2, 1);
    DUE.is("soonest: one by 0, or by 2", x.soonest(0), 4);
    DUE.is("first behind DAY 1: 2 can wait", x.first(0, 1), 1);
    DUE.is("first behind DAY 2: 2 can't wait", x.first(0, 2), 5);
    DUE.is("first behind DAY 3", x.first(0, 3), 7);
  }

  private static void firstOfEachLast() {
    DUE.sentence("IV: the lowest set that can still do it so soon: one is AWAY at first");
    for (int last = 0; last < 8; last++) {
      HandedOn x = Due.crowd(8, 1, 1, 1);
      int teller = (last + 1) % 8;
      x.know(teller, 0, 1);
      x.put(last, 3, 7);
      for (int i = 0; i < 8; i++) {
        x.meet(last, i, i == (last + 7) % 8 ? 1 : 0);
      }
      int others = 255 & ~(1 << last);
      DUE.is("soonest, " + last + " is shown last", x.soonest(0), 4);
      DUE.is("first behind DAY 3", x.first(0, 3), 255);
      int set = x.first(0, 2);
      DUE.is("first behind DAY 2: " + last + " can't be in it", set & ~others, 0);
      int met = (last + 7) % 8;
      DUE.is("first behind DAY 2: the one that " + last + " MEETS is", set >> met & 1, 1);
      x.put(teller, 2, 0);
      DUE.is("soonest, nobody shows", x.soonest(0), NONE);
    }
    HandedOn x = Due.crowd(3, 1, 1, 1);
    x.know(1, 0, 1);
    x.put(0, 3, 1);
    x.put(2, 3, 2);
    DUE.is("soonest, 2 on DAY 0, 0 on DAY 1", x.soonest(0), 2);
    DUE.is("first behind DAY 0: all but 0", x.first(0, 0), 6);
    DUE.is("first behind DAY 1", x.first(0, 1), 7);
  }

  private static void fewestOfEachSize() {
    DUE.sentence("IV: FEWEST SHOWINGS: each by one to 1 .. AT ONCE others");
    for (int people = 1; people <= 8; people++) {
      for (int once = 1; once <= 3; once++) {
        HandedOn x = Due.crowd(people, 0, 6, once);
        x.know(people - 1, 0, 1);
        int due = (people - 1 + once - 1) / once;
        DUE.is("fewest of " + people + " by " + once, x.fewest(0, 0), due);
        DUE.is("the FIRST who shows", x.fewest(0, 1), due == 0 ? NONE : people - 1);
        for (int i = 0; i < people - 1; i++) {
          x.meet(i, people - 1, 0);
        }
        DUE.is("fewest, it MEETS nobody", x.fewest(0, 0), due == 0 ? 0 : NONE);
        DUE.is("the FIRST, it MEETS nobody", x.fewest(0, 1), NONE);
      }
    }
  }

  private static void fewestWithoutHours() {
    DUE.sentence("IV: FEWEST SHOWINGS: neither HOURS nor DAYS");
    HandedOn x = Due.crowd(3, 0, 6, 1);
    x.know(0, 0, 1);
    for (int i = 0; i < 3; i++) {
      x.put(i, 3, ALL_DAYS);
    }
    DUE.is("soonest", x.soonest(0), NONE);
    DUE.is("fewest", x.fewest(0, 0), 2);
    x.meet(0, 2, 0);
    DUE.is("fewest, by 1", x.fewest(0, 0), 2);
    x.meet(1, 2, 0);
    DUE.is("fewest, nobody MEETS 2", x.fewest(0, 0), NONE);
  }

  private static void fewestFirst() {
    DUE.sentence("IV: the FIRST who shows: the lowest with whom it can begin so");
    for (int knowing = 1; knowing < 255; knowing++) {
      HandedOn x = Due.crowd(8, 0, 1, 1);
      for (int i = 0; i < 8; i++) {
        x.know(i, 0, knowing >> i & 1);
      }
      DUE.is("fewest, know: " + knowing, x.fewest(0, 0), 8 - Integer.bitCount(knowing));
      DUE.is("the FIRST who shows", x.fewest(0, 1), Integer.numberOfTrailingZeros(knowing));
    }
  }

  private static void fewestByTheBetter() {
    DUE.sentence("IV: FEWEST SHOWINGS: one of two who could go on shows both, the other only one");
    for (int shift = 0; shift < 8; shift++) {
      for (int way = 0; way < 2; way++) {
        int knowing = shift;
        int better = (shift + 1 + way) % 8;
        int worse = (shift + 2 - way) % 8;
        int[] last = {(shift + 3) % 8, (shift + 4) % 8};
        HandedOn x = Due.crowd(8, 0, 1, 2);
        for (int i = 0; i < 8; i++) {
          x.know(i, 0, 1);
          for (int j = 0; j < i; j++) {
            x.meet(i, j, 0);
          }
        }
        for (int one : new int[] {better, worse, last[0], last[1]}) {
          x.know(one, 0, 0);
        }
        x.meet(knowing, better, 1);
        x.meet(knowing, worse, 1);
        x.meet(better, last[0], 1);
        x.meet(better, last[1], 1);
        x.meet(worse, last[0], 1);
        DUE.is("fewest by " + better, x.fewest(0, 0), 2);
        DUE.is("the FIRST who shows", x.fewest(0, 1), knowing);
      }
    }
  }

  private static void withoutOthers() {
    DUE.sentence("28: LEFT OUT: SOONEST without one (0 without others)");
    HandedOn x = Due.crowd(1, 0, 6, 1);
    DUE.is("without the only one", x.without(0, 0), 0);
    DUE.is("left", x.left(0), 0);
    x.know(0, 0, 1);
    DUE.is("without the only one, who KNOWS it", x.without(0, 0), 0);
    DUE.is("without(0, 1)", x.without(0, 1), NONE);
    DUE.is("without(0, -1)", x.without(0, -1), NONE);
    DUE.is("without(1, 0)", x.without(1, 0), NONE);
    HandedOn y = Due.crowd(2, 1, 1, 1);
    y.know(0, 0, 1);
    DUE.is("without 1: the other KNOWS it", y.without(0, 1), 0);
    DUE.is("without 0: the other does not", y.without(0, 0), NONE);
    DUE.is("left", y.left(0), 1);
  }

  private static void withoutTheOnlyOne() {
    DUE.sentence("IV: LEFT OUT: neither shown nor showing");
    for (int one = 0; one < 8; one++) {
      HandedOn x = Due.crowd(8, 1, 1, 1);
      x.know(one, 0, 1);
      DUE.is("without the only one who KNOWS it", x.without(0, one), NONE);
      int other = (one + 1) % 8;
      DUE.is("without another: seven are as soon", x.without(0, other), 3);
      for (int i = 0; i < 8; i++) {
        if (i != one && i != other) {
          x.meet(one, i, 0);
        }
      }
      DUE.is("without the only one whom it MEETS", x.without(0, other), NONE);
    }
  }

  private static void leftTheLowest() {
    DUE.sentence("29: BEST LEFT OUT (the lowest)");
    for (int people = 2; people <= 8; people++) {
      HandedOn x = Due.crowd(people, 12, 1, 3);
      x.know(0, 0, 1);
      DUE.is("left: all but the teller are alike", x.left(0), 1);
      x.know(people - 1, 0, 1);
      DUE.is("left: two KNOW it", x.left(0), people == 3 ? 1 : 0);
      x.know(0, 0, 0);
      DUE.is("left: the last KNOWS it", x.left(0), 0);
    }
    HandedOn x = Due.crowd(4, 12, 1, 3);
    x.know(0, 0, 1);
    x.put(3, 3, 1);
    DUE.is("left: who is AWAY", x.left(0), 3);
    x.put(2, 3, 1);
    DUE.is("left: two are AWAY, the lowest of all", x.left(0), 1);
  }

  private static void leftNobodyCan() {
    DUE.sentence("29: NONE, if it can't be whoever is left out");
    HandedOn x = Due.crowd(3, 0, 1, 1);
    x.know(0, 0, 1);
    DUE.is("left, without HOURS", x.left(0), NONE);
    x.know(1, 0, 1);
    DUE.is("left: the only one who does not KNOW it", x.left(0), 2);
    DUE.is("left(1)", x.left(1), NONE);
    DUE.is("left(-1)", x.left(-1), NONE);
  }

  private static void startAlone() {
    DUE.sentence("30: START: SOONEST if one alone KNEW it");
    for (int people = 1; people <= 8; people++) {
      HandedOn x = Due.crowd(people, 1, 1, 1);
      int due = people == 1 ? 0 : 32 - Integer.numberOfLeadingZeros(people - 1);
      for (int one = 0; one < people; one++) {
        DUE.is("start of " + people, x.start(0, one), due);
        x.know(one, 0, 9);
      }
      DUE.is("start, though all KNOW it", x.start(0, 0), due);
      DUE.is("soonest, all KNOW it", x.soonest(0), 0);
      DUE.is("start(0, " + people + ")", x.start(0, people), NONE);
      DUE.is("start(0, -1)", x.start(0, -1), NONE);
    }
  }

  private static void bestTheLowest() {
    DUE.sentence("31: BEST START (the lowest)");
    for (int best = 0; best < 8; best++) {
      HandedOn x = Due.crowd(8, 12, 1, 3);
      DUE.is("best, all alike", x.best(0), 0);
      for (int i = 0; i < 8; i++) {
        for (int j = 0; j < i; j++) {
          x.meet(i, j, i == best || j == best ? 1 : 0);
        }
      }
      DUE.is("best, whom all MEET", x.best(0), best);
      DUE.is("start of the best", x.start(0, best), 1);
      DUE.is("start of another", x.start(0, (best + 1) % 8), 2);
    }
  }

  private static void bestNobodyCan() {
    DUE.sentence("31: BEST START, NONE");
    HandedOn x = Due.crowd(3, 1, 1, 1);
    x.put(2, 2, 0);
    DUE.is("best, nobody can show 2", x.best(0), NONE);
    x.put(2, 2, 1);
    DUE.is("best, all can be shown", x.best(0), 0);
    x.put(2, 3, ALL_DAYS);
    DUE.is("best, 2 is always AWAY", x.best(0), NONE);
    DUE.is("best(1)", x.best(1), NONE);
    DUE.is("best(-1)", x.best(-1), NONE);
  }
}
