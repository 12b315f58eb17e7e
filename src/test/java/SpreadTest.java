/** Promises 25 to 31: SOONEST, the FIRST way, FEWEST SHOWINGS, LEFT OUT and START. */
public final class SpreadTest {
  private static final Due DUE = new Due("SpreadTest");

  public static void main(String[] args) {
    soonest();
    soonestLong();
    whoCanBeShown();
    notEnoughForTwo();
    notBoth();
    theRightOnes();
    first();
    fewest();
    fewestFirst();
    fewestByTheRightOne();
    without();
    start();
    none();
    DUE.end();
  }

  private static void soonest() {
    HandedOn x = Due.crowd(8, 4, 4, 1);
    DUE.is("nobody KNOWS it", x.soonest(0), -1);
    x.know(0, 0, 1);
    DUE.is("8 with 1 each DAY", x.soonest(0), 3);
    x.know(7, 0, 9);
    DUE.is("2 of 8 with 1 each DAY", x.soonest(0), 2);
    x.know(7, 0, 0);
    x.rule(0, 1, 3);
    DUE.is("8 with 3 each DAY", x.soonest(0), 2);
    x.rule(0, 0, 1);
    DUE.is("8 with 12 each DAY", x.soonest(0), 1);
    x.rule(0, 0, 3);
    DUE.is("HOURS through TAKES is cut", x.soonest(0), 2);
    x.rule(0, 0, 5);
    DUE.is("too few HOURS", x.soonest(0), -1);
    for (int i = 0; i < 8; i++) {
      x.know(i, 0, 1);
    }
    DUE.is("all KNOW it", x.soonest(0), 0);
    HandedOn y = Due.crowd(0, 0, 1, 1);
    DUE.is("without PEOPLE", y.soonest(0), 0);
    DUE.is("first without PEOPLE", y.first(0, 3), 0);
    DUE.is("fewest without PEOPLE", y.fewest(0, 0), 0);
  }

  private static void soonestLong() {
    HandedOn x = Due.crowd(2, 1, 1, 1);
    x.know(0, 0, 1);
    x.put(1, 3, (1 << 29) - 1);
    DUE.is("on DAY 29 alone", x.soonest(0), 30);
    DUE.is("start on DAY 29", x.start(0, 1), 30);
    DUE.is("best on DAY 29", x.best(0), 0);
    DUE.is("first(0, 28)", x.first(0, 28), 1);
    DUE.is("first(0, 29)", x.first(0, 29), 3);
    x.put(1, 3, (1 << 30) - 1);
    DUE.is("always AWAY", x.soonest(0), -1);
    DUE.is("first(0, -1)", x.first(0, -1), -1);
    x.put(1, 3, 0);
    x.put(0, 3, (1 << 29) - 1);
    DUE.is("the teller AWAY", x.soonest(0), 30);
    x.rule(0, 0, 2);
    DUE.is("too few HOURS", x.soonest(0), -1);
    HandedOn y = Due.crowd(3, 1, 1, 1);
    y.know(0, 0, 1);
    y.know(2, 0, 1);
    y.put(1, 3, (1 << 29) - 1);
    y.put(2, 3, (1 << 30) - 1);
    DUE.is("left, on DAY 29", y.left(0), 1);
    y.know(2, 0, 0);
    DUE.is("left, on DAY 29 with 2", y.left(0), 2);
    DUE.is("without 2, on DAY 29", y.without(0, 2), 30);
  }

  /** Each can show enough for all alone, but not for those two whom only one of them MEETS. */
  private static void notEnoughForTwo() {
    for (int apart = 0; apart < 3; apart++) {
      HandedOn x = Due.crowd(5, 1, 1, 1);
      x.put(4, 2, 12);
      x.know(3, 0, 1);
      x.know(4, 0, 1);
      for (int i = 0; i < 3; i++) {
        x.meet(i == apart ? 3 : 4, i, 0);
        for (int j = 0; j < i; j++) {
          x.meet(i, j, 0);
        }
      }
      DUE.is("two whom 3 alone MEETS, apart " + apart, x.soonest(0), 2);
      x.put(3, 2, 2);
      DUE.is("enough for both", x.soonest(0), 1);
    }
  }

  private static void whoCanBeShown() {
    HandedOn x = Due.crowd(3, 6, 3, 1);
    x.know(0, 0, 1);
    DUE.is("two on one DAY", x.soonest(0), 1);
    x.put(1, 2, 2);
    DUE.is("one has too few HOURS", x.soonest(0), -1);
    x.put(1, 2, 3);
    DUE.is("one has just enough", x.soonest(0), 1);
    x.put(0, 2, 3);
    DUE.is("one a DAY", x.soonest(0), 2);
    x.meet(0, 2, 0);
    DUE.is("by the other", x.soonest(0), 2);
    x.put(1, 2, 2);
    DUE.is("the other can't be shown", x.soonest(0), -1);
    x.put(1, 2, 3);
    x.meet(1, 2, 0);
    DUE.is("nobody MEETS it", x.soonest(0), -1);
    x.meet(1, 2, 1);
    x.know(0, 0, 1);
    Due.law(x, "refuses;learnt 0;takes 12");
    x.force(0);
    x.art(1, 1);
    x.rule(0, 3, 2);
    DUE.is("whatever LEVELS, LAWS, NEEDS", x.soonest(0), 2);
  }

  /** Two are shown on DAY 0, but never both 2 and 3: they MEET 0 alone, who is back on DAY 3. */
  private static void notBoth() {
    HandedOn x = Due.crowd(5, 1, 1, 1);
    x.know(0, 0, 1);
    x.know(1, 0, 1);
    int[][] apart = {{1, 2}, {1, 3}, {0, 4}, {2, 3}, {2, 4}, {3, 4}};
    for (int[] a : apart) {
      x.meet(a[0], a[1], 0);
    }
    x.put(0, 3, 6);
    DUE.is("soonest: 0 shows 2 and 3 on two DAYS", x.soonest(0), 4);
    DUE.is("first(0, 0): 4 can wait", x.first(0, 0), 3 + 4);
    x.put(0, 2, 2);
    DUE.is("0 shows both on DAY 0", x.soonest(0), 1);
  }

  /** Those who are shown first must be those who can go on: greedy numbers would be too slow. */
  private static void theRightOnes() {
    HandedOn x = Due.crowd(5, 1, 1, 1);
    x.know(0, 0, 1);
    for (int i = 1; i <= 3; i++) {
      x.meet(i, 4, 0);
    }
    x.meet(0, 4, 0);
    x.meet(3, 4, 1);
    DUE.is("soonest: 3 first", x.soonest(0), 3);
    DUE.is("first(0, -1)", x.first(0, -1), 1);
    DUE.is("first(0, 0): 1 is low enough", x.first(0, 0), 3);
    DUE.is("first(0, 1): 3 must be, 2 can wait", x.first(0, 1), 3 + 8);
    DUE.is("first(0, 2)", x.first(0, 2), 31);
    x.put(4, 3, ~2 & ((1 << 30) - 1));
    DUE.is("soonest: 4 on DAY 1 alone", x.soonest(0), 3);
    DUE.is("first(0, 0): 3 must be", x.first(0, 0), 9);
    DUE.is("first(0, 1): 4 must be, 1 and 2 can wait", x.first(0, 1), 9 + 16);
    DUE.is("first(0, 2)", x.first(0, 2), 31);
  }

  private static void first() {
    HandedOn x = Due.crowd(6, 2, 1, 1);
    x.know(5, 0, 1);
    DUE.is("soonest", x.soonest(0), 2);
    DUE.is("first(0, -1)", x.first(0, -1), 32);
    DUE.is("first(0, 0): two show four on DAY 1", x.first(0, 0), 32 + 1);
    DUE.is("first(0, 1)", x.first(0, 1), 63);
    for (int day = 2; day < 30; day++) {
      DUE.is("first, all", x.first(0, day), 63);
    }
    DUE.is("first(0, 30)", x.first(0, 30), -1);
    DUE.is("first(0, -2)", x.first(0, -2), -1);
    DUE.is("first(1, 0)", x.first(1, 0), -1);
    DUE.is("first(-1, 0)", x.first(-1, 0), -1);
    x.know(4, 0, 1);
    DUE.is("first of what stands now", x.first(0, -1), 48);
    DUE.is("soonest", x.soonest(0), 1);
    DUE.is("first(0, 0)", x.first(0, 0), 63);
    x.art(1, 3);
    x.know(0, 1, 1);
    DUE.is("first of another ART", x.first(1, -1), 1);
    DUE.is("first of the first ART again", x.first(0, -1), 48);
    for (int i = 0; i < 6; i++) {
      x.know(i, 1, 1);
    }
    DUE.is("first, all KNOW it", x.first(1, -1), 63);
    DUE.is("first, all KNOW it", x.first(1, 0), 63);
  }

  private static void fewest() {
    HandedOn x = Due.crowd(8, 0, 6, 1);
    DUE.is("nobody KNOWS it", x.fewest(0, 0), -1);
    DUE.is("nobody KNOWS it", x.fewest(0, 1), -1);
    x.know(3, 0, 1);
    x.put(3, 3, (1 << 30) - 1);
    DUE.is("neither HOURS nor DAYS", x.fewest(0, 0), 7);
    x.rule(0, 1, 2);
    DUE.is("two AT ONCE", x.fewest(0, 0), 4);
    x.rule(0, 1, 3);
    DUE.is("three AT ONCE", x.fewest(0, 0), 3);
    DUE.is("the first who shows", x.fewest(0, 1), 3);
    for (int i = 0; i < 8; i++) {
      if (i != 3 && i != 4) {
        x.meet(3, i, 0);
      }
    }
    DUE.is("by 4", x.fewest(0, 0), 3);
    x.meet(4, 3, 0);
    DUE.is("it can't be", x.fewest(0, 0), -1);
    DUE.is("it can't be", x.fewest(0, 1), -1);
    for (int i = 0; i < 8; i++) {
      x.know(i, 0, 2);
    }
    DUE.is("without any", x.fewest(0, 0), 0);
    DUE.is("without any", x.fewest(0, 1), -1);
    DUE.is("fewest(0, 2)", x.fewest(0, 2), -1);
    DUE.is("fewest(0, -1)", x.fewest(0, -1), -1);
    DUE.is("fewest(1, 0)", x.fewest(1, 0), -1);
  }

  /** 0 and 1 KNOW it. 0 MEETS 2 alone, 1 MEETS 2, 3, 4: two SHOWINGS, 0 can begin with 2. */
  private static void fewestFirst() {
    HandedOn x = Due.crowd(5, 4, 1, 2);
    x.know(0, 0, 1);
    x.know(1, 0, 1);
    int[][] apart = {{0, 3}, {0, 4}, {2, 3}, {2, 4}, {3, 4}};
    for (int[] a : apart) {
      x.meet(a[0], a[1], 0);
    }
    DUE.is("fewest(0, 0)", x.fewest(0, 0), 2);
    DUE.is("fewest(0, 1)", x.fewest(0, 1), 0);
    x.meet(0, 2, 0);
    DUE.is("fewest(0, 0)", x.fewest(0, 0), 2);
    DUE.is("fewest(0, 1): 0 MEETS nobody new", x.fewest(0, 1), 1);
    x.meet(0, 2, 1);
    x.rule(0, 1, 3);
    DUE.is("fewest(0, 0): all by 1", x.fewest(0, 0), 1);
    DUE.is("fewest(0, 1): 0 would be too many", x.fewest(0, 1), 1);
  }

  /** 0 MEETS all but 4; one of the others MEETS 4 and a second one: it must be in the first two. */
  private static void fewestByTheRightOne() {
    for (int right = 1; right <= 3; right++) {
      for (int second = 1; second <= 3; second++) {
        HandedOn x = Due.crowd(5, 0, 1, 2);
        x.know(0, 0, 1);
        for (int i = 0; i < 5; i++) {
          for (int j = i + 1; j < 5; j++) {
            x.meet(i, j, i == 0 && j < 4 ? 1 : 0);
          }
        }
        x.meet(right, 4, 1);
        if (second != right) {
          x.meet(right, second, 1);
        }
        DUE.is("fewest by " + right + " and " + second, x.fewest(0, 0), second == right ? 3 : 2);
        DUE.is("the first who shows", x.fewest(0, 1), 0);
      }
    }
  }

  private static void without() {
    HandedOn x = Due.crowd(4, 2, 1, 1);
    x.know(1, 0, 1);
    DUE.is("soonest", x.soonest(0), 2);
    DUE.is("without(0, 0)", x.without(0, 0), 1);
    DUE.is("without(0, 1): nobody KNOWS it", x.without(0, 1), -1);
    DUE.is("left(0)", x.left(0), 0);
    x.meet(1, 3, 0);
    DUE.is("without(0, 0)", x.without(0, 0), 2);
    DUE.is("without(0, 2)", x.without(0, 2), 2);
    DUE.is("without(0, 3)", x.without(0, 3), 1);
    DUE.is("left(0)", x.left(0), 3);
    x.put(3, 2, 0);
    DUE.is("without(0, 0)", x.without(0, 0), -1);
    DUE.is("left(0)", x.left(0), 3);
    x.know(1, 0, 0);
    DUE.is("left(0): it can't be", x.left(0), -1);
    HandedOn y = Due.crowd(1, 2, 1, 1);
    DUE.is("without others", y.without(0, 0), 0);
    DUE.is("left(0)", y.left(0), 0);
    HandedOn z = Due.crowd(0, 0, 1, 1);
    DUE.is("left(0) of nobody", z.left(0), -1);
    DUE.is("best(0) of nobody", z.best(0), -1);
  }

  private static void start() {
    HandedOn x = Due.crowd(4, 1, 1, 1);
    for (int i = 0; i < 4; i++) {
      x.know(i, 0, 1);
    }
    DUE.is("start(0, 0): alone", x.start(0, 0), 2);
    x.meet(0, 2, 0);
    x.meet(0, 3, 0);
    x.meet(1, 3, 0);
    DUE.is("a row, start(0, 0)", x.start(0, 0), 3);
    DUE.is("a row, start(0, 1)", x.start(0, 1), 2);
    DUE.is("a row, start(0, 3)", x.start(0, 3), 3);
    DUE.is("best(0)", x.best(0), 1);
    x.put(1, 3, 1);
    DUE.is("start(0, 1), AWAY at first", x.start(0, 1), 3);
    DUE.is("start(0, 2), 1 AWAY at first", x.start(0, 2), 3);
    DUE.is("best(0)", x.best(0), 1);
    x.put(3, 2, 0);
    DUE.is("start(0, 0): 3 can't be shown", x.start(0, 0), -1);
    DUE.is("start(0, 3): 3 can't show", x.start(0, 3), -1);
    DUE.is("best(0)", x.best(0), -1);
    HandedOn y = Due.crowd(1, 0, 1, 1);
    DUE.is("one alone", y.start(0, 0), 0);
    DUE.is("one alone, best", y.best(0), 0);
    DUE.is("one alone does not KNOW it", y.soonest(0), -1);
  }

  private static void none() {
    HandedOn x = Due.crowd(2, 1, 1, 1);
    x.know(0, 0, 1);
    int[] bad = {1, -1, 5, Integer.MIN_VALUE, Integer.MAX_VALUE};
    for (int b : bad) {
      DUE.is("soonest", x.soonest(b), -1);
      DUE.is("left", x.left(b), -1);
      DUE.is("best", x.best(b), -1);
      DUE.is("fewest", x.fewest(b, 0), -1);
      DUE.is("without", x.without(b, 0), -1);
      DUE.is("start", x.start(b, 0), -1);
    }
    DUE.is("without(0, 2)", x.without(0, 2), -1);
    DUE.is("without(0, -1)", x.without(0, -1), -1);
    DUE.is("start(0, 2)", x.start(0, 2), -1);
    DUE.is("start(0, -1)", x.start(0, -1), -1);
    DUE.is("status()", x.status(), 0);
  }
}
