/** Promises 39 and 40: WEEKS drawn. */
public final class WeekTest {
  private static final Due DUE = new Due("WeekTest");

  public static void main(String[] args) {
    byHand();
    spoilt();
    away();
    twoShowOne();
    refused();
    kept();
    DUE.end();
  }

  /**
   * Two, one 0 has LEVEL 9, SEED 0. Draws: 12345 (of 2: 1), then of 100; DAY by DAY. The DRAWS are
   * made here anew by the document's rule, and told by hand who is shown.
   */
  private static void byHand() {
    HandedOn x = Due.people(4, 4);
    x.art(1, 1);
    x.know(0, 0, 9);
    DUE.taken(x, "week(0, 0)", x.week(0, 0), 2);
    DUE.is("drawn(0, 0)", x.drawn(0, 0), 9);
    DUE.is("drawn(0, 1): 12345 is odd", x.drawn(0, 1), 8);
    DUE.is("drawn(6, 1)", x.drawn(6, 1), 8);
    DUE.is("drawn(0, -1)", x.drawn(0, -1), 0);
    DUE.taken(x, "week(0, 1)", x.week(0, 1), 2);
    DUE.is("1103 + 12345 = 13448, even: itself", x.drawn(0, 1), 0);
    long s = 13448;
    int day = 0;
    while (s % 2 == 0) {
      DUE.is("not shown yet", x.drawn(day, 1), 0);
      s = (s * 1103 + 12345) % 1000003;
      day++;
    }
    DUE.is("shown on DAY " + day, x.drawn(day, 1), 8);
    DUE.is("of(1, 5): KNOWS stays", x.of(1, 5), 0);
  }

  private static void spoilt() {
    HandedOn x = Due.people(4, 4);
    x.art(1, 1);
    x.know(0, 0, 1);
    Due.law(x, "wrong 100;learnt knows*has");
    x.force(0);
    DUE.is("week(0, 0): not below 0", x.week(0, 0), 1);
    DUE.is("drawn(6, 1)", x.drawn(6, 1), 0);
    long s = 0;
    int odd = 0;
    for (int day = 0; day < 7; day++) {
      s = (s * 1103 + 12345) % 1000003;
      if (s % 2 == 1) {
        odd++;
        s = (s * 1103 + 12345) % 1000003;
      }
    }
    DUE.is("drawn(0, -1)", x.drawn(0, -1), odd);
    DUE.is("drawn(1, -1)", x.drawn(1, -1), -1);
    // The second DRAW with SEED 0 is (12345 * 1103 + 12345) modulo 1,000,003 = 628,841: of 100, 41.
    Due.law(x, "wrong 41;learnt 5;refuses");
    x.force(1);
    DUE.is("week: 41 is not below 41", x.week(0, 0), 2);
    DUE.is("drawn(0, 1)", x.drawn(0, 1), 5);
    Due.law(x, "wrong 42;learnt 5;refuses");
    x.force(2);
    x.week(0, 0);
    DUE.is("drawn(0, 1), SPOILT", x.drawn(0, 1), 4);
    Due.law(x, "learnt 3+day+once+art");
    x.force(3);
    x.week(0, 0);
    DUE.is("by DAY 0, once 1", x.drawn(0, 1), 4);
  }

  private static void away() {
    HandedOn x = Due.people(4, 4);
    x.art(1, 1);
    x.know(0, 0, 5);
    x.put(0, 3, 127);
    DUE.is("the teller is AWAY", x.week(0, 0), 1);
    x.put(0, 3, 126);
    DUE.is("the teller is there on DAY 0", x.week(0, 0), 2);
    DUE.is("drawn(0, 1)", x.drawn(0, 1), 4);
    x.put(0, 3, 0);
    x.put(1, 3, 127);
    DUE.is("the learner is AWAY", x.week(0, 0), 1);
    x.put(1, 3, 0);
    x.meet(0, 1, 0);
    DUE.is("they do not MEET", x.week(0, 0), 1);
    x.know(0, 0, 0);
    x.meet(0, 1, 1);
    DUE.is("nobody KNOWS it", x.week(0, 0), 0);
    HandedOn y = new HandedOn();
    y.art(1, 1);
    DUE.is("without PEOPLE", y.week(0, 7), 0);
    DUE.is("drawn(0, -1)", y.drawn(0, -1), 0);
    DUE.is("drawn(0, 0)", y.drawn(0, 0), -1);
  }

  /** Three; whoever is drawn second on a DAY is not shown, and makes no second DRAW. */
  private static void twoShowOne() {
    for (int seed = 0; seed < 300; seed++) {
      HandedOn x = Due.people(4, 4, 4);
      PlainModel plain = new PlainModel();
      for (int i = 0; i < 3; i++) {
        plain.one(5, 5, 4);
      }
      plain.art(1, 1);
      x.art(1, 1);
      int[] levels = {9, 4, 0};
      for (int i = 0; i < 3; i++) {
        x.know(i, 0, levels[i]);
        plain.know(i, 0, levels[i]);
      }
      DUE.is("week(0, " + seed + ")", x.week(0, seed), plain.week(0, seed));
      for (int day = 0; day < 7; day++) {
        for (int i = 0; i < 3; i++) {
          DUE.is("drawn", x.drawn(day, i), plain.drawn(day, i));
        }
      }
    }
  }

  private static void refused() {
    HandedOn x = Due.people(4, 4);
    x.art(1, 1);
    x.know(0, 0, 9);
    DUE.is("drawn(0, 0) ahead of any", x.drawn(0, 0), -1);
    DUE.refused(x, "week(0, -1)", x.week(0, -1), -1);
    DUE.refused(x, "week(0, 1000001)", x.week(0, 1000001), -1);
    DUE.refused(x, "week(1, 1000001)", x.week(1, 1000001), -1);
    DUE.refused(x, "week(1, 0)", x.week(1, 0), -2);
    DUE.refused(x, "week(-1, 0)", x.week(-1, 0), -2);
    DUE.is("drawn(0, 0) still", x.drawn(0, 0), -1);
    DUE.taken(x, "week(0, 1000000)", x.week(0, 1000000), x.week(0, 1000000));
    x.week(0, 0);
    x.week(3, 0);
    DUE.is("drawn(0, 1) of the latest that was not REFUSED", x.drawn(0, 1), 8);
    int[][] none = {{-1, 0}, {7, 0}, {0, 2}, {0, -2}, {1, -1}, {7, -1}, {-1, -1}};
    for (int[] n : none) {
      DUE.is("drawn of none", x.drawn(n[0], n[1]), -1);
    }
  }

  private static void kept() {
    HandedOn x = Due.people(4, 4);
    x.art(1, 1);
    x.know(0, 0, 9);
    x.image(0);
    x.week(0, 0);
    x.know(0, 0, 3);
    DUE.is("drawn(0, 1), kept", x.drawn(0, 1), 8);
    x.back(0);
    DUE.is("drawn(0, 1), IMAGES do not keep it", x.drawn(0, 1), 8);
    x.one(1, 1, 1);
    DUE.is("drawn(0, 2): it was not there", x.drawn(0, 2), -1);
  }
}
