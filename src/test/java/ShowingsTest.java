/** Promises 17 to 24: SHOWINGS gone through DAY by DAY, what is WRONG, how they are judged. */
public final class ShowingsTest {
  private static final Due DUE = new Due("ShowingsTest");

  public static void main(String[] args) {
    show();
    wrong();
    clear();
    levels();
    hours();
    whyOfTeller();
    whyOfLearners();
    whyInOrder();
    needs();
    lawsInShowings();
    oneOfThemRefuses();
    eachShowsEach();
    wrongOnes();
    wrongTies();
    none();
    judge();
    DUE.end();
  }

  /** Four of 4 hours, an ART that TAKES 2, two AT ONCE; one 0 has LEVEL 5. */
  private static HandedOn four() {
    HandedOn x = Due.people(4, 4, 4, 4);
    x.art(2, 2);
    x.know(0, 0, 5);
    return x;
  }

  private static void show() {
    HandedOn x = four();
    DUE.taken(x, "show(0, 0, 0, 0)", x.show(0, 0, 0, 0), 0);
    DUE.taken(x, "show(29, 3, 0, 15)", x.show(29, 3, 0, 15), 1);
    int[][] bad = {{-1, 0, 0, 1}, {30, 0, 0, 1}, {0, 0, 0, 16}, {0, 0, 0, -1}, {30, 4, 0, 1},
        {0, 4, 0, 16}, {0, 0, 0, Integer.MIN_VALUE}};
    for (int[] b : bad) {
      DUE.refused(x, "show of a bad number", x.show(b[0], b[1], b[2], b[3]), -1);
    }
    int[][] none = {{0, 4, 0, 1}, {0, -1, 0, 1}, {0, 0, 1, 1}, {0, 0, -1, 1}};
    for (int[] n : none) {
      DUE.refused(x, "show of none", x.show(n[0], n[1], n[2], n[3]), -2);
    }
    for (int i = 2; i < 60; i++) {
      DUE.is("show " + i, x.show(1, 1, 0, 1), i);
    }
    DUE.refused(x, "show, the 61st", x.show(1, 1, 0, 1), -5);
    DUE.refused(x, "show, the 61st of none", x.show(1, 4, 0, 1), -2);
    DUE.refused(x, "show, the 61st of a bad number", x.show(30, 0, 0, 1), -1);
    DUE.is("count(3)", x.count(3), 60);
    DUE.is("why(0): nobody is shown", x.why(0), 4);
  }

  private static void wrong() {
    HandedOn x = four();
    DUE.refused(x, "wrong(0, 1)", x.wrong(0, 1), -2);
    x.show(0, 0, 0, 2);
    DUE.taken(x, "wrong(0, 0)", x.wrong(0, 0), 0);
    DUE.taken(x, "wrong(0, 1)", x.wrong(0, 1), 0);
    DUE.taken(x, "wrong(0, 1) again", x.wrong(0, 1), 1);
    DUE.is("has(0, 1, 0)", x.has(0, 1, 0), 1);
    DUE.taken(x, "wrong(0, 0)", x.wrong(0, 0), 1);
    DUE.is("has(0, 1, 0)", x.has(0, 1, 0), 0);
    DUE.refused(x, "wrong(0, 2)", x.wrong(0, 2), -1);
    DUE.refused(x, "wrong(1, -1)", x.wrong(1, -1), -1);
    DUE.refused(x, "wrong(1, 1)", x.wrong(1, 1), -2);
    DUE.refused(x, "wrong(-1, 1)", x.wrong(-1, 1), -2);
  }

  private static void clear() {
    HandedOn x = four();
    DUE.is("clear() of none", x.clear(), 0);
    x.show(0, 0, 0, 2);
    x.wrong(0, 1);
    DUE.is("behind(0, 1, 0)", x.behind(0, 1, 0), 4);
    x.know(9, 0, 1);
    DUE.is("clear()", x.clear(), 1);
    DUE.is("status() stays", x.status(), -2);
    DUE.is("behind(0, 1, 0)", x.behind(0, 1, 0), 0);
    DUE.is("why(0)", x.why(0), -1);
    DUE.is("show", x.show(0, 0, 0, 2), 0);
    DUE.is("has(0, 1, 0): WRONG is gone", x.has(0, 1, 0), 0);
  }

  private static void levels() {
    HandedOn x = four();
    x.show(3, 1, 0, 4);
    x.show(1, 1, 0, 4);
    x.show(1, 0, 0, 2);
    DUE.is("why(1): LEVELS at the beginning", x.why(1), 1);
    DUE.is("why(2)", x.why(2), 0);
    DUE.is("why(0)", x.why(0), 0);
    DUE.is("behind(0, 1, 0)", x.behind(0, 1, 0), 0);
    DUE.is("behind(1, 1, 0)", x.behind(1, 1, 0), 4);
    DUE.is("behind(2, 2, 0)", x.behind(2, 2, 0), 0);
    DUE.is("behind(3, 2, 0)", x.behind(3, 2, 0), 3);
    DUE.is("behind(29, 2, 0)", x.behind(29, 2, 0), 3);
    x.know(2, 0, 3);
    DUE.is("behind(3, 2, 0)", x.behind(3, 2, 0), 3);
    x.know(2, 0, 7);
    DUE.is("behind(3, 2, 0), the greatest", x.behind(3, 2, 0), 7);
    x.know(0, 0, 1);
    DUE.is("behind(1, 1, 0), one less", x.behind(1, 1, 0), 0);
    DUE.is("why(0)", x.why(0), 1);
  }

  private static void hours() {
    HandedOn x = four();
    x.show(0, 0, 0, 2);
    x.show(0, 0, 0, 12);
    x.show(0, 0, 0, 2);
    x.show(1, 1, 0, 8);
    DUE.is("why(2)", x.why(2), 3);
    DUE.is("spent(0, 0)", x.spent(0, 0), 4);
    DUE.is("spent(0, 1)", x.spent(0, 1), 2);
    DUE.is("spent(0, 3)", x.spent(0, 3), 2);
    DUE.is("spent(1, 0)", x.spent(1, 0), 0);
    DUE.is("spent(1, 1)", x.spent(1, 1), 2);
    DUE.is("judge(2)", x.judge(2), 4 + 2 + 2 + 2 + 2 + 2);
    x.put(1, 2, 1);
    DUE.is("why(0)", x.why(0), 7);
    DUE.is("why(2): too few hours again", x.why(2), 7);
    DUE.is("spent(0, 0), DROPPED is nothing", x.spent(0, 0), 2);
    x.put(0, 2, 2);
    DUE.is("why(2): the teller's first", x.why(2), 3);
    x.put(1, 2, 12);
    x.put(0, 2, 12);
    DUE.is("why(2)", x.why(2), 0);
    DUE.is("spent(0, 1)", x.spent(0, 1), 4);
    DUE.is("spent(0, 0)", x.spent(0, 0), 6);
  }

  private static void whyOfTeller() {
    HandedOn x = four();
    x.show(2, 0, 0, 2);
    DUE.is("why 0", x.why(0), 0);
    x.put(0, 3, 4);
    DUE.is("why 2", x.why(0), 2);
    x.put(0, 3, 3 | 8);
    DUE.is("why 0, AWAY on others", x.why(0), 0);
    x.put(0, 2, 1);
    DUE.is("why 3", x.why(0), 3);
    x.put(0, 2, 2);
    DUE.is("why 0, just enough", x.why(0), 0);
    x.rule(0, 0, 3);
    DUE.is("why 3", x.why(0), 3);
    x.know(0, 0, 0);
    DUE.is("why 1", x.why(0), 1);
  }

  private static void whyOfLearners() {
    HandedOn x = four();
    x.show(0, 0, 0, 14);
    DUE.is("why 4: three", x.why(0), 4);
    x.rule(0, 1, 3);
    DUE.is("why 0: three", x.why(0), 0);
    x.show(1, 0, 0, 3);
    DUE.is("why 4: it is one of them", x.why(1), 4);
    x.show(1, 0, 0, 0);
    DUE.is("why 4: nobody", x.why(2), 4);
    x.put(3, 3, 1);
    DUE.is("why 5", x.why(0), 5);
    x.put(3, 3, 2);
    DUE.is("why 0", x.why(0), 0);
    x.meet(0, 2, 0);
    DUE.is("why 6", x.why(0), 6);
    x.meet(0, 2, 1);
    x.meet(1, 2, 0);
    DUE.is("why 0: learners need not MEET", x.why(0), 0);
    x.put(2, 2, 1);
    DUE.is("why 7", x.why(0), 7);
    DUE.is("behind(0, 1, 0): nothing of it", x.behind(0, 1, 0), 0);
  }

  private static void whyInOrder() {
    HandedOn x = Due.people(1, 1, 1);
    x.art(2, 1);
    x.art(1, 1);
    x.rule(0, 3, 2);
    Due.law(x, "refuses");
    x.force(0);
    x.put(0, 3, 1);
    x.put(1, 3, 1);
    x.meet(0, 2, 0);
    x.show(0, 0, 0, 6);
    DUE.is("1", x.why(0), 1);
    x.know(0, 0, 3);
    DUE.is("2", x.why(0), 2);
    x.put(0, 3, 0);
    DUE.is("3", x.why(0), 3);
    x.put(0, 2, 4);
    DUE.is("4", x.why(0), 4);
    x.rule(0, 1, 2);
    DUE.is("5, of 1", x.why(0), 5);
    x.put(1, 3, 0);
    DUE.is("6, of 2", x.why(0), 6);
    x.meet(0, 2, 1);
    DUE.is("7", x.why(0), 7);
    x.put(1, 2, 2);
    DUE.is("7, of 2", x.why(0), 7);
    x.put(2, 2, 2);
    DUE.is("8", x.why(0), 8);
    x.know(1, 1, 1);
    DUE.is("8, of 2", x.why(0), 8);
    x.know(2, 1, 1);
    DUE.is("9", x.why(0), 9);
    x.force(-1);
    DUE.is("0", x.why(0), 0);
  }

  private static void needs() {
    HandedOn x = Due.people(12, 12);
    x.art(1, 1);
    x.art(1, 1);
    x.rule(0, 3, 2);
    x.rule(1, 2, 3);
    x.know(0, 0, 9);
    x.know(0, 1, 4);
    x.know(1, 1, 2);
    x.show(0, 0, 1, 2);
    x.show(0, 0, 0, 2);
    x.show(1, 0, 0, 2);
    DUE.is("why(1): not at the beginning", x.why(1), 8);
    DUE.is("why(2)", x.why(2), 0);
    x.rule(1, 2, 4);
    DUE.is("why(2): not what will do", x.why(2), 8);
    x.know(0, 1, 0);
    x.know(1, 1, 4);
    DUE.is("why(1): the teller need not", x.why(1), 0);
    for (int art = 0; art < 5; art++) {
      for (int needed = 0; needed < 5; needed++) {
        oneNeedsOne(art, needed);
      }
    }
  }

  private static void oneNeedsOne(int art, int needed) {
    HandedOn x = Due.people(12, 12);
    for (int i = 0; i < 5; i++) {
      x.art(1, 1);
      x.know(0, i, 9);
    }
    if (art != needed) {
      x.rule(art, 3, 1 << needed);
      x.show(0, 0, art, 2);
      DUE.is("ART " + art + " NEEDS " + needed, x.why(0), 8);
      x.know(1, needed, 1);
      DUE.is("ART " + art + " NEEDS " + needed + " that it has", x.why(0), 0);
    }
  }

  private static void lawsInShowings() {
    HandedOn x = four();
    x.put(1, 0, 1);
    x.put(2, 0, 3);
    Due.law(x, "takes learn+once-1;learnt learn+day;refuses if has>4 and learner=3");
    x.force(0);
    x.show(0, 0, 0, 6);
    DUE.is("takes by the lowest learner", x.spent(0, 2), 2);
    DUE.is("learnt of 1", x.behind(0, 1, 0), 1);
    DUE.is("learnt of 2", x.behind(0, 2, 0), 3);
    x.show(5, 0, 0, 4);
    DUE.is("takes of 2 alone", x.spent(5, 0), 3);
    DUE.is("learnt on DAY 5", x.behind(5, 2, 0), 8);
    x.show(6, 0, 0, 9);
    DUE.is("takes of itself, once 2: 6 hours", x.why(2), 3);
    x.put(0, 2, 6);
    DUE.is("it is one of them", x.why(2), 4);
    x.show(7, 0, 0, 0);
    DUE.is("takes what the ART TAKES", x.why(3), 4);
    x.put(0, 2, 1);
    DUE.is("takes what the ART TAKES", x.why(3), 3);
    x.put(0, 2, 12);
    x.put(3, 2, 12);
    x.know(3, 0, 4);
    x.show(8, 0, 0, 8);
    DUE.is("does not refuse", x.why(4), 0);
    x.show(9, 0, 0, 8);
    DUE.is("refuses by its LEVEL then", x.why(5), 9);
    DUE.is("behind(29, 3, 0)", x.behind(29, 3, 0), 9);
  }

  private static void oneOfThemRefuses() {
    for (int refusing = 1; refusing < 4; refusing++) {
      HandedOn x = four();
      x.rule(0, 1, 3);
      Due.law(x, "refuses if learner=" + refusing);
      x.force(0);
      x.show(0, 0, 0, 14);
      DUE.is("one of three refuses", x.why(0), 9);
      x.show(0, 0, 0, 14 & ~(1 << refusing));
      DUE.is("the other two do not", x.why(1), 0);
    }
  }

  /** Each shows each: whoever it is, the learner has it then, and spends its hours. */
  private static void eachShowsEach() {
    for (int teller = 0; teller < 8; teller++) {
      HandedOn x = Due.people(4, 4, 4, 4, 4, 4, 4, 4);
      x.art(1, 1);
      x.know(teller, 0, 9);
      for (int learner = 0; learner < 8; learner++) {
        x.show(learner, teller, 0, 1 << learner);
        boolean itself = learner == teller;
        DUE.is("why", x.why(learner), itself ? 4 : 0);
        DUE.is("behind", x.behind(learner, learner, 0), itself ? 9 : 8);
        DUE.is("spent", x.spent(learner, learner), itself ? 0 : 1);
      }
    }
  }

  private static void wrongOnes() {
    HandedOn x = four();
    x.know(0, 0, 9);
    x.show(0, 0, 0, 2);
    x.show(1, 1, 0, 4);
    x.show(2, 2, 0, 8);
    x.show(3, 0, 0, 8);
    x.wrong(0, 1);
    DUE.is("has(0, 1, 0)", x.has(0, 1, 0), 1);
    DUE.is("has(0, 2, 0)", x.has(0, 2, 0), 0);
    DUE.is("has(1, 2, 0)", x.has(1, 2, 0), 1);
    DUE.is("has(2, 3, 0)", x.has(2, 3, 0), 1);
    DUE.is("has(3, 3, 0): a better one", x.has(3, 3, 0), 0);
    DUE.is("judge(4)", x.judge(4), 2);
    x.clear();
    x.know(1, 0, 4);
    x.show(0, 0, 0, 2);
    x.show(0, 1, 0, 4);
    x.wrong(0, 1);
    DUE.is("has(0, 1, 0)", x.has(0, 1, 0), 1);
    DUE.is("has(0, 2, 0): not at the beginning", x.has(0, 2, 0), 0);
    x.know(1, 0, 8);
    DUE.is("has(0, 1, 0): not more than it had", x.has(0, 1, 0), 0);
    x.wrong(1, 1);
    DUE.is("has(0, 2, 0)", x.has(0, 2, 0), 1);
    x.put(2, 2, 1);
    DUE.is("has(0, 2, 0): DROPPED", x.has(0, 2, 0), 0);
    DUE.is("judge(4)", x.judge(4), 0);
  }

  private static void wrongTies() {
    HandedOn x = four();
    x.know(1, 0, 5);
    x.know(2, 0, 6);
    x.show(0, 0, 0, 8);
    x.show(0, 1, 0, 8);
    x.wrong(0, 1);
    DUE.is("the first counts, WRONG", x.has(0, 3, 0), 1);
    x.wrong(0, 0);
    x.wrong(1, 1);
    DUE.is("the first counts, right", x.has(0, 3, 0), 0);
    x.put(3, 2, 12);
    x.show(0, 2, 0, 8);
    x.wrong(0, 1);
    DUE.is("the greatest counts", x.has(0, 3, 0), 0);
    DUE.is("behind(0, 3, 0)", x.behind(0, 3, 0), 5);
    x.wrong(2, 1);
    DUE.is("the greatest counts, WRONG", x.has(0, 3, 0), 1);
    x.show(1, 2, 0, 8);
    DUE.is("the same on a later DAY changes nothing", x.has(1, 3, 0), 1);
  }

  private static void none() {
    HandedOn x = four();
    x.show(0, 0, 0, 2);
    int[][] none = {{-1, 0, 0}, {30, 0, 0}, {0, 4, 0}, {0, -1, 0}, {0, 0, 1}, {0, 0, -1},
        {Integer.MIN_VALUE, Integer.MAX_VALUE, 0}};
    for (int[] n : none) {
      DUE.is("behind of none", x.behind(n[0], n[1], n[2]), -1);
      DUE.is("has of none", x.has(n[0], n[1], n[2]), -1);
    }
    DUE.is("spent(-1, 0)", x.spent(-1, 0), -1);
    DUE.is("spent(30, 0)", x.spent(30, 0), -1);
    DUE.is("spent(0, 4)", x.spent(0, 4), -1);
    DUE.is("spent(0, -1)", x.spent(0, -1), -1);
    DUE.is("why(1)", x.why(1), -1);
    DUE.is("why(-1)", x.why(-1), -1);
    DUE.is("judge(5)", x.judge(5), -1);
    DUE.is("judge(-1)", x.judge(-1), -1);
    DUE.is("count(5): NONE is not REFUSED", x.count(5) + x.count(6), 0);
  }

  private static void judge() {
    HandedOn x = four();
    DUE.is("judge(3)", x.judge(3), -1);
    x.show(0, 0, 0, 6);
    DUE.is("judge(0)", x.judge(0), 0);
    DUE.is("judge(1)", x.judge(1), -1);
    x.show(2, 3, 0, 2);
    x.show(1, 0, 0, 8);
    x.show(1, 0, 0, 0);
    DUE.is("judge(0)", x.judge(0), 1);
    DUE.is("judge(1)", x.judge(1), 3);
    x.know(0, 0, 0);
    DUE.is("judge(0)", x.judge(0), 4);
    DUE.is("judge(1)", x.judge(1), 0);
    x.know(0, 0, 5);
    DUE.is("judge(3)", x.judge(3), 1);
    x.rule(0, 2, 4);
    DUE.is("judge(3)", x.judge(3), 1);
    x.rule(0, 2, 5);
    DUE.is("judge(3)", x.judge(3), -1);
    x.rule(0, 2, 1);
    x.art(1, 1);
    DUE.is("judge(3) of all ARTS", x.judge(3), -1);
    for (int i = 0; i < 4; i++) {
      x.know(i, 1, 1);
    }
    DUE.is("judge(3) of all ARTS", x.judge(3), 1);
    x.clear();
    for (int i = 0; i < 4; i++) {
      x.know(i, 0, 1);
    }
    DUE.is("judge(3), all at first", x.judge(3), 0);
    for (int i = 0; i < 4; i++) {
      x.know(i, 0, 0);
      DUE.is("judge(3), but for " + i, x.judge(3), -1);
      x.know(i, 0, 1);
    }
  }
}
