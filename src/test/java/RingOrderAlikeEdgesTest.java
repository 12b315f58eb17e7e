/** Term IV and promises 32 to 35: each sentence that names an edge of ALIKE, RING, ORDER. */
public final class RingOrderAlikeEdgesTest {
  private static final Due DUE = new Due("RingOrderAlikeEdgesTest");
  private static final int NONE = HandedOn.NONE;

  public static void main(String[] args) {
    oneOfWhom();
    levelTwoAtLeast();
    byOneAlone();
    oneMoreThanCanBe();
    wellIsTheGreatest();
    wellOfDays();
    wellNotAllCan();
    ringAlone();
    ringRound();
    ringOwnLevels();
    ringByLaw();
    ringAskedOnTheWay();
    orderWithoutNeeds();
    orderInARow();
    orderTheLowestFirst();
    orderOneAnother();
    orderBehindOneAnother();
    orderOfI();
    DUE.end();
  }

  private static void oneOfWhom() {
    DUE.sentence("IV: m (1 .. 12) of whom one has LEVEL t, all others 0");
    HandedOn x = new HandedOn();
    for (int t = 1; t <= 9; t++) {
      for (int w = 1; w <= 9; w++) {
        DUE.is("one alone, " + t + ", " + w, x.alike(1, 1, t, w), t >= w ? 0 : NONE);
        DUE.is("two, " + t + ", " + w, x.alike(2, 1, t, w), t > w ? 1 : NONE);
        DUE.is("twelve, " + t + ", " + w, x.alike(12, 3, t, w) != NONE ? 1 : 0, t > w ? 1 : 0);
      }
    }
  }

  private static void levelTwoAtLeast() {
    DUE.sentence("IV: each with a LEVEL of 2 at least may show it");
    HandedOn x = new HandedOn();
    for (int m = 1; m <= 12; m++) {
      for (int k = 1; k <= 3; k++) {
        DUE.is("LEVEL 1 shows nothing", x.alike(m, k, 1, 1), m == 1 ? 0 : NONE);
        DUE.is("LEVEL 2 shows, those shown do not", x.alike(m, k, 2, 1), (m - 1 + k - 1) / k);
      }
    }
    DUE.is("LEVEL 3: 1, 2, 4, 7, 11, 16", x.alike(12, 1, 3, 1), 5);
    DUE.is("LEVEL 4: 1, 2, 4, 8, 15", x.alike(12, 1, 4, 1), 4);
  }

  private static void byOneAlone() {
    DUE.sentence("IV: who have one LEVEL less than it then; all have LEVEL w at least");
    HandedOn x = new HandedOn();
    for (int t = 2; t <= 9; t++) {
      for (int k = 1; k <= 3; k++) {
        DUE.is("w one below t: the first alone shows", x.alike(12, k, t, t - 1), (11 + k - 1) / k);
        DUE.is("w as t: nobody else can", x.alike(2, k, t, t), NONE);
      }
    }
  }

  private static void oneMoreThanCanBe() {
    DUE.sentence("IV: the fewest DAYS: as many as can be, and one more");
    int[][] most = {{1, 2, 4, 8}, {1, 3, 9}, {1, 4}};
    for (int k = 1; k <= 3; k++) {
      HandedOn x = new HandedOn();
      for (int days = 0; days < most[k - 1].length; days++) {
        int m = most[k - 1][days];
        DUE.is("alike of " + m + " by " + k, x.alike(m, k, 9, 1), days);
        DUE.is("alike of one more than " + m, x.alike(m + 1, k, 9, 1), days + 1);
      }
    }
  }

  private static void wellIsTheGreatest() {
    DUE.sentence("IV: the greatest w for which they are enough");
    for (int m = 1; m <= 12; m++) {
      for (int k = 1; k <= 3; k++) {
        for (int t = 1; t <= 9; t++) {
          HandedOn x = new HandedOn();
          int[] days = new int[10];
          for (int w = 1; w <= 9; w++) {
            days[w] = x.alike(m, k, t, w);
          }
          for (int d = 0; d <= 12; d++) {
            int due = 0;
            for (int w = 1; w <= 9; w++) {
              due = days[w] != NONE && days[w] <= d ? w : due;
            }
            DUE.is("well(" + m + ", " + k + ", " + t + ", " + d + ")", x.well(m, k, t, d), due);
          }
        }
      }
    }
  }

  private static void wellOfDays() {
    DUE.sentence("IV: how well at best in d (0 .. 12) DAYS");
    HandedOn x = new HandedOn();
    DUE.is("d -1", x.well(1, 1, 5, -1), NONE);
    DUE.is("d 0, one alone", x.well(1, 1, 5, 0), 5);
    DUE.is("d 12, one alone", x.well(1, 1, 5, 12), 5);
    DUE.is("d 13", x.well(1, 1, 5, 13), NONE);
    DUE.is("d 0, two", x.well(2, 3, 5, 0), 0);
    DUE.is("d 1, two", x.well(2, 3, 5, 1), 4);
    DUE.is("d 10, twelve one by one", x.well(12, 1, 2, 10), 0);
    DUE.is("d 11, twelve one by one", x.well(12, 1, 2, 11), 1);
    DUE.is("d 12, twelve one by one", x.well(12, 1, 2, 12), 1);
  }

  private static void wellNotAllCan() {
    DUE.sentence("33: well, 0: not all can");
    HandedOn x = new HandedOn();
    for (int m = 2; m <= 12; m++) {
      for (int d = 0; d <= 12; d++) {
        DUE.is("LEVEL 1 shows nothing", x.well(m, 3, 1, d), 0);
      }
      DUE.is("no DAY", x.well(m, 3, 9, 0), 0);
    }
  }

  private static void ringAlone() {
    DUE.sentence("34: one alone: its own LEVEL");
    for (int level = 0; level <= 9; level++) {
      HandedOn x = Due.crowd(1, 4, 1, 1);
      x.know(0, 0, level);
      DUE.is("ring, LEVEL " + level, x.ring(0, 0), level);
      Due.law(x, "learnt 3;refuses");
      x.force(0);
      DUE.is("ring by a LAW: nobody HANDS it", x.ring(0, 0), level);
      DUE.is("ring(1, 0)", x.ring(1, 0), NONE);
      DUE.is("ring(0, 1)", x.ring(0, 1), NONE);
    }
  }

  private static void ringRound() {
    DUE.sentence("IV: a RING: all stand by numbers, the last beside the first");
    for (int people = 2; people <= 8; people++) {
      for (int first = 0; first < people; first++) {
        HandedOn x = Due.crowd(people, 4, 1, 1);
        x.know(first, 0, 9);
        DUE.is("ring of " + people + " from " + first, x.ring(first, 0), 9 - people);
        int behind = (first + 1) % people;
        DUE.is("ring from the one behind", x.ring(behind, 0), 8);
        int ahead = (first + people - 1) % people;
        DUE.is("ring from the one ahead", x.ring(ahead, 0), 9 - (people - 1));
        x.know(first, 0, people - 1);
        DUE.is("ring, not below 0", x.ring(first, 0), 0);
        x.know(first, 0, people);
        DUE.is("ring, just 0", x.ring(first, 0), 0);
        x.know(first, 0, people + 1);
        DUE.is("ring, just 1", x.ring(first, 0), 1);
      }
    }
  }

  private static void ringOwnLevels() {
    DUE.sentence("IV: each next one having its own LEVEL or what it is HANDED, if that is more");
    for (int own = 0; own <= 9; own++) {
      HandedOn x = Due.crowd(3, 4, 1, 1);
      x.know(0, 0, 6);
      x.know(1, 0, own);
      DUE.is("ring, the next has " + own, x.ring(0, 0), Math.max(5, own) - 2);
      x.know(1, 0, 0);
      x.know(2, 0, own);
      DUE.is("ring, the last has " + own, x.ring(0, 0), Math.max(4, own) - 1);
    }
  }

  private static void ringByLaw() {
    DUE.sentence("IV: by the LAW (once 1, DAY 0), till the first would be HANDED it again");
    HandedOn x = Due.crowd(3, 4, 1, 1);
    x.know(0, 0, 2);
    Due.law(x, "learnt 9 if has=2 and learner=0 and once=1 and day=0;wrong 100;refuses");
    x.force(0);
    DUE.is("the first has its own LEVEL still", x.ring(0, 0), 9);
    Due.law(x, "learnt 0;learnt 7 if teller=2 and learner=0");
    x.force(1);
    DUE.is("from 0: HANDED by 2", x.ring(0, 0), 7);
    DUE.is("from 1: HANDED by 0", x.ring(1, 0), 0);
    DUE.is("from 2: HANDED by 1", x.ring(2, 0), 0);
  }

  private static void ringAskedOnTheWay() {
    DUE.sentence("IV: it goes round by the LAW in FORCE, each step of its own teller and learner");
    String[] words = {"knows", "has", "tell", "learn", "art", "day", "teller", "learner", "once"};
    int[] onTheWay = {2, 0, 5, 6, 1, 0, 1, 2, 1};
    int[] atTheEnd = {2, 2, 8, 1, 1, 0, 2, 0, 1};
    for (int i = 0; i < words.length; i++) {
      HandedOn x = new HandedOn();
      x.one(1, 3, 0);
      x.one(4, 5, 0);
      x.one(6, 8, 0);
      x.art(1, 1);
      x.art(1, 1);
      x.know(0, 1, 2);
      x.know(1, 1, 1);
      Due.law(x, "learnt knows;learnt " + words[i] + " if learner=2");
      Due.law(x, "learnt knows;learnt " + words[i] + " if learner=0");
      x.force(0);
      DUE.is(words[i] + ", 1 shows 2", x.ring(0, 1), onTheWay[i]);
      x.force(1);
      DUE.is(words[i] + ", 2 shows 0", x.ring(0, 1), atTheEnd[i]);
    }
  }

  private static void orderWithoutNeeds() {
    DUE.sentence("35: the i-th ART in ORDER (i NONE: how many stand in it)");
    HandedOn x = new HandedOn();
    for (int arts = 0; arts <= 5; arts++) {
      DUE.is("order(NONE) of " + arts, x.order(NONE), arts);
      for (int i = 0; i <= 6; i++) {
        DUE.is("order(" + i + ") of " + arts, x.order(i), i < arts ? i : NONE);
      }
      x.art(1, 1);
    }
  }

  private static HandedOn five() {
    HandedOn x = new HandedOn();
    for (int i = 0; i < 5; i++) {
      x.art(1, 1);
    }
    return x;
  }

  private static void orderInARow() {
    DUE.sentence("IV: each is behind those it NEEDS");
    HandedOn x = five();
    for (int i = 0; i < 4; i++) {
      x.rule(i, 3, 2 << i);
    }
    for (int i = 0; i < 5; i++) {
      DUE.is("order(" + i + "), each NEEDS the next", x.order(i), 4 - i);
    }
    HandedOn y = five();
    y.rule(0, 3, 30);
    int[] due = {1, 2, 3, 4, 0};
    for (int i = 0; i < 5; i++) {
      DUE.is("order(" + i + "), 0 NEEDS all others", y.order(i), due[i]);
    }
  }

  private static void orderTheLowestFirst() {
    DUE.sentence("IV: the lowest that can be first");
    HandedOn x = five();
    x.rule(1, 3, 16);
    int[] due = {0, 2, 3, 4, 1};
    for (int i = 0; i < 5; i++) {
      DUE.is("order(" + i + "), 1 NEEDS 4", x.order(i), due[i]);
    }
    HandedOn y = five();
    y.rule(0, 3, 8);
    y.rule(1, 3, 1);
    int[] then = {2, 3, 0, 1, 4};
    for (int i = 0; i < 5; i++) {
      DUE.is("order(" + i + "), 0 and 1 come as soon as they can", y.order(i), then[i]);
    }
  }

  private static void orderOneAnother() {
    DUE.sentence("IV: none, if they need one another");
    for (int size = 2; size <= 5; size++) {
      HandedOn x = five();
      for (int i = 0; i < size; i++) {
        x.rule(i, 3, 1 << (i + 1) % size);
      }
      DUE.is("order(NONE), " + size + " need one another", x.order(NONE), 5 - size);
      for (int i = 0; i < 5; i++) {
        DUE.is("order(" + i + ")", x.order(i), i < 5 - size ? size + i : NONE);
      }
      x.rule(0, 3, 0);
      DUE.is("order(NONE), the first needs none", x.order(NONE), 5);
    }
  }

  private static void orderBehindOneAnother() {
    DUE.sentence("35: how many stand in it, less than there are, if some need one another");
    HandedOn x = five();
    x.rule(0, 3, 2);
    x.rule(1, 3, 1);
    x.rule(2, 3, 1);
    x.rule(3, 3, 16);
    DUE.is("order(NONE): 2 NEEDS one of them", x.order(NONE), 2);
    int[] due = {4, 3, NONE, NONE, NONE};
    for (int i = 0; i < 5; i++) {
      DUE.is("order(" + i + ")", x.order(i), due[i]);
    }
  }

  private static void orderOfI() {
    DUE.sentence("35: order, NONE");
    HandedOn x = five();
    for (int i : new int[] {5, 6, -2, -3, Integer.MIN_VALUE, Integer.MAX_VALUE}) {
      DUE.is("order(" + i + ")", x.order(i), NONE);
    }
    DUE.is("order(4)", x.order(4), 4);
    DUE.is("order(-1)", x.order(-1), 5);
  }
}
