/** Term III and promises 17 to 24: each sentence that names an edge of SHOWINGS. */
public final class ShowingEdgesTest {
  private static final Due DUE = new Due("ShowingEdgesTest");
  private static final int NONE = HandedOn.NONE;

  public static void main(String[] args) {
    sixtyShowings();
    days();
    bitsOfPeople();
    inTheOrderTold();
    atTheBeginningOfTheDay();
    levelOneAtLeast();
    hoursOfTheTeller();
    hoursOfALearner();
    hoursAreOfEachDay();
    takesTwelve();
    takesWithoutLearners();
    takesOfTheLowestLearner();
    askedInAShowing();
    onceEdges();
    oneOfThem();
    needsLeast();
    needsOfAllArts();
    refuses();
    droppedIsNothing();
    theGreatest();
    firstReasonOfAll();
    eachReasonOfEach();
    DUE.end();
  }

  /** So many of 12 hours, an ART that TAKES 1, three AT ONCE; 0 has LEVEL 5. */
  private static HandedOn some(int people) {
    HandedOn x = Due.crowd(people, 12, 1, 3);
    x.know(0, 0, 5);
    return x;
  }

  private static void sixtyShowings() {
    DUE.sentence("III: SHOWINGS, 60 at most");
    HandedOn x = some(2);
    for (int i = 0; i < 60; i++) {
      DUE.is("why of one not told yet", x.why(i), NONE);
      DUE.is("wrong of one not told yet", x.wrong(i, 1), -2);
      DUE.taken(x, "show, number " + i, x.show(i % 30, 0, 0, 2), i);
      DUE.is("count(3)", x.count(3), i + 1);
    }
    DUE.refused(x, "show, the 61st", x.show(0, 0, 0, 2), -5);
    DUE.is("count(3)", x.count(3), 60);
    DUE.is("why(59)", x.why(59), 0);
    DUE.is("why(60)", x.why(60), NONE);
    DUE.taken(x, "wrong(59, 1)", x.wrong(59, 1), 0);
    DUE.refused(x, "wrong(60, 1)", x.wrong(60, 1), -2);
    DUE.is("judge(2): 60 hours of each", x.judge(2), 120);
    DUE.is("clear()", x.clear(), 60);
    DUE.is("count(3)", x.count(3), 0);
    DUE.is("why(0)", x.why(0), NONE);
    DUE.is("judge(2)", x.judge(2), 0);
    DUE.is("clear() of none", x.clear(), 0);
    DUE.taken(x, "show, room again", x.show(0, 0, 0, 2), 0);
    DUE.taken(x, "wrong of the new one: not at first", x.wrong(0, 0), 0);
  }

  private static void days() {
    DUE.sentence("17: DAY 0 .. 29");
    for (int day = -1; day <= 30; day++) {
      HandedOn x = some(2);
      boolean canBe = day >= 0 && day <= 29;
      DUE.is("show on DAY " + day, x.show(day, 0, 0, 2), canBe ? 0 : -1);
      DUE.is("why", x.why(0), canBe ? 0 : NONE);
      DUE.is("behind the DAY", x.behind(day, 1, 0), canBe ? 4 : NONE);
      DUE.is("behind the DAY ahead", x.behind(day - 1, 1, 0), day > 0 ? 0 : NONE);
      DUE.is("behind DAY 29", x.behind(29, 1, 0), canBe ? 4 : 0);
      DUE.is("has of the DAY", x.has(day, 1, 0), canBe ? 0 : NONE);
      DUE.is("spent on the DAY", x.spent(day, 1), canBe ? 1 : NONE);
      DUE.is("spent on the DAY ahead", x.spent(day - 1, 1), day > 0 ? 0 : NONE);
      DUE.is("judge(3)", x.judge(3), canBe ? day : NONE);
    }
  }

  private static void bitsOfPeople() {
    DUE.sentence("17: bits of PEOPLE that are there, 0 too");
    for (int n = 1; n <= 8; n++) {
      HandedOn x = some(n);
      int all = (1 << n) - 1;
      DUE.taken(x, "show to nobody", x.show(0, 0, 0, 0), 0);
      DUE.taken(x, "show to all", x.show(0, 0, 0, all), 1);
      DUE.taken(x, "show to the last", x.show(0, 0, 0, 1 << n - 1), 2);
      DUE.refused(x, "show to one beyond", x.show(0, 0, 0, 1 << n), -1);
      DUE.refused(x, "show to one beyond, too", x.show(0, 0, 0, 1 << n | 1), -1);
      DUE.refused(x, "show to bit 30", x.show(0, 0, 0, 1 << 30), -1);
      DUE.refused(x, "show to bit 31", x.show(0, 0, 0, Integer.MIN_VALUE), -1);
      DUE.refused(x, "show to -1", x.show(0, 0, 0, -1), -1);
      DUE.is("why(0)", x.why(0), 4);
      DUE.is("why(2)", x.why(2), n == 1 ? 4 : 0);
    }
  }

  private static void inTheOrderTold() {
    DUE.sentence("III: in the order in which they were told, on each DAY");
    HandedOn x = Due.people(1, 1, 1, 1);
    x.art(1, 1);
    x.know(0, 0, 5);
    x.show(29, 0, 0, 8);
    x.show(0, 0, 0, 4);
    x.show(29, 0, 0, 2);
    x.show(0, 0, 0, 2);
    int[] due = {0, 0, 3, 3};
    for (int i = 0; i < 4; i++) {
      DUE.is("why(" + i + ")", x.why(i), due[i]);
    }
    DUE.is("behind(0, 2, 0)", x.behind(0, 2, 0), 4);
    DUE.is("behind(28, 3, 0)", x.behind(28, 3, 0), 0);
    DUE.is("behind(29, 3, 0)", x.behind(29, 3, 0), 4);
  }

  private static void atTheBeginningOfTheDay() {
    DUE.sentence("III: by LEVELS at the beginning of the DAY");
    HandedOn x = some(4);
    x.show(0, 0, 0, 2);
    x.show(0, 1, 0, 4);
    x.show(1, 1, 0, 4);
    x.show(1, 0, 0, 4);
    x.show(2, 2, 0, 8);
    DUE.is("why(1): LEVEL 0 at the beginning", x.why(1), 1);
    DUE.is("why(2)", x.why(2), 0);
    DUE.is("behind(0, 2, 0)", x.behind(0, 2, 0), 0);
    DUE.is("behind(1, 2, 0)", x.behind(1, 2, 0), 4);
    DUE.is("behind(2, 3, 0)", x.behind(2, 3, 0), 3);
  }

  private static void levelOneAtLeast() {
    DUE.sentence("III: if the teller has LEVEL 1 at least");
    for (int level = 0; level <= 9; level++) {
      HandedOn x = some(2);
      x.know(0, 0, level);
      x.show(0, 0, 0, 2);
      DUE.is("why, LEVEL " + level, x.why(0), level == 0 ? 1 : 0);
      DUE.is("behind(0, 1, 0)", x.behind(0, 1, 0), Math.max(level - 1, 0));
      DUE.is("spent(0, 1)", x.spent(0, 1), level == 0 ? 0 : 1);
    }
  }

  private static void hoursOfTheTeller() {
    DUE.sentence("III: the teller has the hours left");
    for (int hours = 0; hours <= 12; hours++) {
      for (int takes = 1; takes <= 6; takes++) {
        HandedOn x = Due.people(hours, 12, 12, 12);
        x.art(takes, 1);
        x.know(0, 0, 5);
        for (int i = 0; i < 13; i++) {
          x.show(0, 0, 0, 2 << i % 3);
        }
        for (int i = 0; i < 13; i++) {
          boolean enough = takes * (i + 1) <= hours;
          DUE.is("why, SHOWING " + i + " of " + takes + ", " + hours + " hours", x.why(i),
              enough ? 0 : 3);
        }
        DUE.is("spent(0, 0)", x.spent(0, 0), hours / takes * takes);
      }
    }
  }

  private static void hoursOfALearner() {
    DUE.sentence("III: all of them have the hours left");
    for (int hours = 0; hours <= 12; hours++) {
      for (int takes = 1; takes <= 6; takes++) {
        HandedOn x = Due.people(12, hours, 12);
        x.art(takes, 2);
        x.know(0, 0, 5);
        x.know(2, 0, 5);
        x.show(0, 0, 0, 2);
        x.show(0, 2, 0, 3);
        DUE.is("why(0)", x.why(0), takes <= hours ? 0 : 7);
        DUE.is("why(1)", x.why(1), 2 * takes <= hours ? 0 : 7);
        int times = Math.min(2, hours / takes);
        DUE.is("spent(0, 1)", x.spent(0, 1), times * takes);
        DUE.is("spent(0, 2)", x.spent(0, 2), times == 2 ? takes : 0);
      }
    }
  }

  private static void hoursAreOfEachDay() {
    DUE.sentence("I: HOURS of a day");
    HandedOn x = Due.people(1, 1);
    x.art(1, 1);
    x.know(0, 0, 9);
    for (int day = 0; day < 30; day++) {
      x.show(day, 0, 0, 2);
      x.show(day, 0, 0, 2);
    }
    for (int day = 0; day < 30; day++) {
      DUE.is("the first on DAY " + day, x.why(2 * day), 0);
      DUE.is("the second on DAY " + day, x.why(2 * day + 1), 3);
      DUE.is("spent(" + day + ", 0)", x.spent(day, 0), 1);
    }
    DUE.is("judge(0)", x.judge(0), 30);
    DUE.is("judge(1)", x.judge(1), 1);
    DUE.is("judge(2)", x.judge(2), 60);
  }

  private static void takesTwelve() {
    DUE.sentence("II: it TAKES what \"takes\" tells, 1 .. 12 (else the nearest), in a SHOWING");
    for (int told = 0; told <= 14; told++) {
      HandedOn x = some(2);
      Due.law(x, "takes " + told);
      x.force(0);
      int takes = Math.max(1, Math.min(12, told));
      x.show(0, 0, 0, 2);
      DUE.is("why, takes " + told, x.why(0), 0);
      DUE.is("spent", x.spent(0, 1), takes);
      x.put(1, 2, takes - 1);
      DUE.is("why, one hour too few", x.why(0), 7);
      x.put(0, 2, takes - 1);
      DUE.is("why, one hour too few of the teller", x.why(0), 3);
    }
  }

  private static void takesWithoutLearners() {
    DUE.sentence("II: without it, or without learners, what the ART TAKES");
    HandedOn x = Due.people(3, 12);
    x.art(4, 1);
    x.know(0, 0, 5);
    Due.law(x, "takes 1");
    x.force(0);
    x.show(0, 0, 0, 0);
    x.show(0, 0, 0, 2);
    DUE.is("4 hours, though \"takes\" tells 1", x.why(0), 3);
    DUE.is("1 hour", x.why(1), 0);
    x.put(0, 2, 4);
    DUE.is("nobody is shown", x.why(0), 4);
    x.force(NONE);
    DUE.is("without \"takes\"", x.why(1), 0);
    x.put(0, 2, 3);
    DUE.is("without \"takes\"", x.why(1), 3);
  }

  private static void takesOfTheLowestLearner() {
    DUE.sentence("II: of the teller, and the learner with the lowest number");
    for (int lowest = 1; lowest < 7; lowest++) {
      HandedOn x = some(8);
      Due.law(x, "takes learner");
      x.force(0);
      x.show(0, 0, 0, 1 << lowest | 128);
      x.show(1, 0, 0, 128);
      DUE.is("spent(0, 7)", x.spent(0, 7), lowest);
      DUE.is("spent(0, 0)", x.spent(0, 0), lowest);
      DUE.is("spent(1, 7)", x.spent(1, 7), 7);
    }
  }

  private static void askedInAShowing() {
    DUE.sentence("II: a LAW is asked of a teller and a learner, the ART, the DAY, and once");
    String[] words = {"knows", "has", "tell", "learn", "art", "day", "teller", "learner", "once"};
    int[] due = {6, 0, 8, 4, 1, 7, 2, 3, 2};
    for (int i = 0; i < words.length; i++) {
      HandedOn x = askedOfTwoAndThree("learnt " + words[i]);
      DUE.is("learnt " + words[i], x.behind(7, 3, 1), due[i]);
      HandedOn y = askedOfTwoAndThree("takes " + words[i]);
      DUE.is("takes " + words[i], y.spent(7, 3), Math.max(1, due[i]));
      String refused = words[i] + "=" + due[i];
      DUE.is("refuses if " + refused, askedOfTwoAndThree("refuses if " + refused).why(0), 9);
      HandedOn z = askedOfTwoAndThree("refuses if learner=3 and not " + refused);
      DUE.is("refuses if not " + refused, z.why(0), 0);
    }
  }

  /** On DAY 7 one 2 (TELL 8, LEVEL 6) shows ART 1 to 3 (LEARN 4, LEVEL 0) and 5. */
  private static HandedOn askedOfTwoAndThree(String law) {
    HandedOn x = some(6);
    x.art(1, 3);
    x.put(2, 0, 1);
    x.put(2, 1, 8);
    x.put(3, 0, 4);
    x.put(3, 1, 3);
    x.know(2, 1, 6);
    Due.law(x, law);
    x.force(0);
    x.show(7, 2, 1, 8 | 32);
    return x;
  }

  private static void onceEdges() {
    DUE.sentence("III: they are 1 .. AT ONCE");
    for (int once = 1; once <= 3; once++) {
      HandedOn x = some(8);
      x.rule(0, 1, once);
      for (int learners = 0; learners < 256; learners += 2) {
        int shown = Integer.bitCount(learners);
        if (shown <= 4 && x.count(3) < 60) {
          int i = x.show(x.count(3) / 2, 0, 0, learners);
          DUE.is("why, " + shown + " of " + once, x.why(i), shown >= 1 && shown <= once ? 0 : 4);
        }
      }
      DUE.is("show to all others", x.show(29, 0, 0, 254), x.count(3) < 60 ? 0 : -5);
    }
  }

  private static void oneOfThem() {
    DUE.sentence("III: none of them is it");
    for (int teller = 0; teller < 8; teller++) {
      HandedOn x = some(8);
      x.know(teller, 0, 9);
      int other = 1 << (teller + 1) % 8;
      x.show(0, teller, 0, 1 << teller);
      x.show(0, teller, 0, 1 << teller | other);
      x.show(0, teller, 0, other);
      DUE.is("itself alone", x.why(0), 4);
      DUE.is("itself, too", x.why(1), 4);
      DUE.is("another one", x.why(2), 0);
      DUE.is("spent", x.spent(0, teller), 1);
    }
  }

  private static void needsLeast() {
    DUE.sentence("III: each has of all ARTS it NEEDS what will do");
    for (int least = 1; least <= 9; least++) {
      HandedOn x = some(3);
      x.art(1, 1);
      x.rule(1, 2, least);
      x.rule(0, 3, 2);
      x.know(2, 1, 9);
      x.show(0, 0, 0, 6);
      for (int level = 0; level <= 9; level++) {
        x.know(1, 1, level);
        DUE.is("LEVEL " + level + ", LEAST " + least, x.why(0), level >= least ? 0 : 8);
      }
    }
  }

  private static void needsOfAllArts() {
    DUE.sentence("III: of all ARTS it NEEDS");
    HandedOn x = some(2);
    for (int i = 1; i < 5; i++) {
      x.art(1, 1);
      x.rule(i, 2, 2);
      x.know(1, i, 2);
    }
    x.rule(0, 3, 30);
    x.show(0, 0, 0, 2);
    DUE.is("why, it has all", x.why(0), 0);
    for (int i = 1; i < 5; i++) {
      x.know(1, i, 1);
      DUE.is("why, but for " + i, x.why(0), 8);
      x.rule(0, 3, 30 & ~(1 << i));
      DUE.is("why, " + i + " is not needed", x.why(0), 0);
      x.rule(0, 3, 30);
      x.know(1, i, 2);
    }
  }

  private static void refuses() {
    DUE.sentence("III: nobody refuses");
    HandedOn x = some(4);
    x.show(0, 0, 0, 14);
    Due.law(x, "refuses if has>2 and once=3 and day=0");
    x.force(0);
    DUE.is("nobody refuses", x.why(0), 0);
    for (int one = 1; one < 4; one++) {
      x.know(one, 0, 2);
      DUE.is("has 2", x.why(0), 0);
      x.know(one, 0, 3);
      DUE.is("has 3", x.why(0), 9);
      x.know(one, 0, 0);
    }
    x.know(3, 0, 9);
    x.show(1, 0, 0, 14);
    x.show(0, 0, 0, 12);
    DUE.is("on another DAY", x.why(1), 0);
    DUE.is("not three", x.why(2), 0);
  }

  private static void droppedIsNothing() {
    DUE.sentence("III: else it is DROPPED: nothing of it");
    HandedOn x = some(3);
    x.put(2, 2, 0);
    x.show(0, 0, 0, 6);
    x.wrong(0, 1);
    DUE.is("why(0)", x.why(0), 7);
    for (int one = 0; one < 3; one++) {
      DUE.is("spent(0, " + one + ")", x.spent(0, one), 0);
      DUE.is("behind(29, " + one + ", 0)", x.behind(29, one, 0), one == 0 ? 5 : 0);
      DUE.is("has(29, " + one + ", 0)", x.has(29, one, 0), 0);
    }
    DUE.is("judge(0)", x.judge(0), 1);
    DUE.is("judge(2)", x.judge(2), 0);
    DUE.is("judge(4)", x.judge(4), 0);
    x.put(2, 2, 1);
    DUE.is("DONE: judge(0)", x.judge(0), 0);
    DUE.is("DONE: judge(2)", x.judge(2), 3);
    DUE.is("DONE: judge(4)", x.judge(4), 2);
  }

  private static void theGreatest() {
    DUE.sentence("III: the greatest of what it had and what it was HANDED");
    for (int had = 0; had <= 9; had++) {
      for (int handed = 0; handed <= 9; handed++) {
        HandedOn x = some(2);
        x.know(1, 0, had);
        Due.law(x, "learnt " + handed);
        x.force(0);
        x.show(3, 0, 0, 2);
        DUE.is("behind(2, 1, 0)", x.behind(2, 1, 0), had);
        DUE.is("behind(3, 1, 0)", x.behind(3, 1, 0), Math.max(had, handed));
      }
    }
    HandedOn x = some(4);
    x.know(1, 0, 9);
    x.know(2, 0, 7);
    x.show(0, 0, 0, 8);
    x.show(0, 1, 0, 8);
    x.show(0, 2, 0, 8);
    DUE.is("of 4, 8, 6 on one DAY", x.behind(0, 3, 0), 8);
  }

  private static void firstReasonOfAll() {
    DUE.sentence("23: the first of these (of all its learners)");
    for (int way = 0; way < 2; way++) {
      int first = way == 0 ? 1 : 2;
      HandedOn x = some(3);
      x.art(1, 1);
      x.rule(0, 3, 2);
      x.show(0, 0, 0, 6);
      x.know(1, 1, 1);
      x.know(2, 1, 1);
      Due.law(x, "refuses if learner=" + first);
      x.force(0);
      DUE.is("9 of " + first, x.why(0), 9);
      x.know(3 - first, 1, 0);
      DUE.is("8 of the other", x.why(0), 8);
      x.put(first, 2, 0);
      DUE.is("7 of " + first, x.why(0), 7);
      x.meet(0, 3 - first, 0);
      DUE.is("6 of the other", x.why(0), 6);
      x.put(first, 3, 1);
      DUE.is("5 of " + first, x.why(0), 5);
      x.rule(0, 1, 1);
      DUE.is("4", x.why(0), 4);
      x.put(0, 2, 0);
      DUE.is("3", x.why(0), 3);
      x.put(0, 3, 1);
      DUE.is("2", x.why(0), 2);
      x.know(0, 0, 0);
      DUE.is("1", x.why(0), 1);
    }
  }

  private static void eachReasonOfEach() {
    DUE.sentence("23: one of them 5 is AWAY .. 9 refuses, whichever of them it is");
    for (int teller = 0; teller < 8; teller++) {
      for (int one = 0; one < 8; one++) {
        if (one != teller) {
          eachReason(teller, one);
        }
      }
    }
  }

  private static void eachReason(int teller, int one) {
    HandedOn x = some(8);
    x.know(teller, 0, 5);
    x.art(1, 1);
    for (int i = 0; i < 8; i++) {
      x.know(i, 1, i == one ? 0 : 1);
    }
    int others = 0;
    for (int i = 0; i < 8 && Integer.bitCount(others) < 2; i++) {
      others |= i == one || i == teller ? 0 : 1 << i;
    }
    x.show(0, teller, 0, 1 << one | others);
    DUE.is("0 of " + one, x.why(0), 0);
    x.put(one, 3, 1);
    DUE.is("5 of " + one, x.why(0), 5);
    x.put(one, 3, 0);
    x.meet(teller, one, 0);
    DUE.is("6 of " + one, x.why(0), 6);
    x.meet(teller, one, 1);
    x.put(one, 2, 0);
    DUE.is("7 of " + one, x.why(0), 7);
    x.put(one, 2, 1);
    x.rule(0, 3, 2);
    DUE.is("8 of " + one, x.why(0), 8);
    x.rule(0, 3, 0);
    Due.law(x, "refuses if learner=" + one);
    x.force(0);
    DUE.is("9 of " + one, x.why(0), 9);
    x.force(NONE);
    DUE.is("0 of " + one + " again", x.why(0), 0);
    DUE.is("behind(0, " + one + ", 0)", x.behind(0, one, 0), one == 0 ? 5 : 4);
  }
}
