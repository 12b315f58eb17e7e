/** Term III, what is WRONG, and promises 18 to 24: each sentence that names an edge of it. */
public final class WrongEdgesTest {
  private static final Due DUE = new Due("WrongEdgesTest");
  private static final int NONE = HandedOn.NONE;

  public static void main(String[] args) {
    wrongOrNot();
    toldToBeWrong();
    atTheBeginningOfThatDay();
    aChainOfDays();
    firstCounts();
    notMoreThanItHad();
    aBetterOneMends();
    ofOneArt();
    behindEachDay();
    judgeDropped();
    judgeHours();
    judgeFirstDay();
    judgeFirstDayOfAll();
    judgeNobody();
    judgeWrong();
    spentOfEach();
    DUE.end();
  }

  /** So many of 12 hours, an ART that TAKES 1, three AT ONCE; 0 has LEVEL 9. */
  private static HandedOn some(int people) {
    HandedOn x = Due.crowd(people, 12, 1, 3);
    x.know(0, 0, 9);
    return x;
  }

  private static void wrongOrNot() {
    DUE.sentence("18: a SHOWING was WRONG (1) or not (0; at first): what it was");
    HandedOn x = some(2);
    x.show(0, 0, 0, 2);
    x.show(0, 0, 0, 2);
    DUE.taken(x, "not at first", x.wrong(0, 0), 0);
    DUE.taken(x, "wrong(0, 1)", x.wrong(0, 1), 0);
    DUE.refused(x, "wrong(0, 2)", x.wrong(0, 2), -1);
    DUE.refused(x, "wrong(0, -1)", x.wrong(0, -1), -1);
    DUE.refused(x, "wrong(2, 0)", x.wrong(2, 0), -2);
    DUE.refused(x, "wrong(-1, 0)", x.wrong(-1, 0), -2);
    DUE.taken(x, "the other is not", x.wrong(1, 0), 0);
    DUE.taken(x, "wrong(0, 1) still", x.wrong(0, 1), 1);
    DUE.taken(x, "wrong(0, 0)", x.wrong(0, 0), 1);
    DUE.taken(x, "wrong(0, 0) again", x.wrong(0, 0), 0);
  }

  private static void toldToBeWrong() {
    DUE.sentence("III: WRONG, if what it has is from a SHOWING that was told to be WRONG");
    HandedOn x = some(4);
    x.show(1, 0, 0, 2);
    x.show(1, 0, 0, 4);
    DUE.is("has, nothing is WRONG", x.has(1, 1, 0), 0);
    x.wrong(0, 1);
    DUE.is("has, ahead of the DAY", x.has(0, 1, 0), 0);
    DUE.is("has, behind the DAY", x.has(1, 1, 0), 1);
    DUE.is("has, behind DAY 29", x.has(29, 1, 0), 1);
    DUE.is("has, of another SHOWING", x.has(1, 2, 0), 0);
    DUE.is("has, of one who was not shown", x.has(29, 3, 0), 0);
    DUE.is("has, of the teller", x.has(29, 0, 0), 0);
    x.wrong(0, 0);
    DUE.is("has, not WRONG again", x.has(1, 1, 0), 0);
    x.wrong(0, 1);
    x.know(0, 0, 1);
    DUE.is("has, HANDED 0: not more than it had", x.has(1, 1, 0), 0);
    x.know(0, 0, 2);
    DUE.is("has, HANDED 1", x.has(1, 1, 0), 1);
  }

  private static void atTheBeginningOfThatDay() {
    DUE.sentence("III: or from a teller whose ART was WRONG at the beginning of that DAY");
    HandedOn x = some(4);
    x.know(1, 0, 3);
    x.show(4, 0, 0, 2);
    x.show(4, 1, 0, 4);
    x.show(5, 1, 0, 8);
    x.wrong(0, 1);
    DUE.is("the teller, behind that DAY", x.has(4, 1, 0), 1);
    DUE.is("shown on that DAY: not at its beginning", x.has(4, 2, 0), 0);
    DUE.is("behind(4, 2, 0): of what 1 had", x.behind(4, 2, 0), 2);
    DUE.is("shown on the next DAY", x.has(5, 3, 0), 1);
    DUE.is("behind(5, 3, 0)", x.behind(5, 3, 0), 7);
  }

  private static void aChainOfDays() {
    DUE.sentence("III: WRONG from one to the other, through all");
    HandedOn x = some(8);
    for (int i = 0; i < 7; i++) {
      x.show(i, i, 0, 2 << i);
    }
    for (int wrong = 0; wrong < 7; wrong++) {
      x.wrong(wrong, 1);
      for (int one = 0; one < 8; one++) {
        DUE.is("WRONG from " + wrong + " on: has of " + one, x.has(29, one, 0),
            one > wrong ? 1 : 0);
      }
      DUE.is("judge(4)", x.judge(4), 7 - wrong);
      x.wrong(wrong, 0);
    }
  }

  private static void firstCounts() {
    DUE.sentence("III: of SHOWINGS that HAND it the same on one DAY the first counts");
    for (int wrong = 0; wrong < 8; wrong++) {
      HandedOn x = some(5);
      x.know(1, 0, 9);
      x.know(2, 0, 9);
      for (int teller = 0; teller < 3; teller++) {
        x.show(0, teller, 0, 8);
        x.wrong(teller, wrong >> teller & 1);
      }
      DUE.is("has, WRONG are " + wrong, x.has(0, 3, 0), wrong & 1);
      x.put(0, 3, 1);
      DUE.is("has, the first is DROPPED", x.has(0, 3, 0), wrong >> 1 & 1);
      x.put(0, 3, 0);
      x.know(0, 0, 8);
      DUE.is("has, the first is HANDED less", x.has(0, 3, 0), wrong >> 1 & 1);
      x.know(2, 0, 8);
      x.know(1, 0, 7);
      DUE.is("has, the second is HANDED less", x.has(0, 3, 0), wrong & 1);
    }
  }

  private static void notMoreThanItHad() {
    DUE.sentence("III: what is not more than it had changes nothing");
    for (int had = 0; had <= 9; had++) {
      HandedOn x = some(2);
      x.know(1, 0, had);
      x.know(0, 0, 5);
      x.show(0, 0, 0, 2);
      x.wrong(0, 1);
      DUE.is("has, it had " + had + " and is HANDED 4", x.has(0, 1, 0), had < 4 ? 1 : 0);
      DUE.is("behind", x.behind(0, 1, 0), Math.max(had, 4));
      x.show(1, 0, 0, 2);
      DUE.is("has, the same once more, not WRONG", x.has(1, 1, 0), had < 4 ? 1 : 0);
    }
  }

  private static void aBetterOneMends() {
    DUE.sentence("III: WRONG is an ART, if what it has is from a SHOWING that was WRONG");
    HandedOn x = some(3);
    x.know(2, 0, 5);
    x.show(0, 2, 0, 2);
    x.show(1, 0, 0, 2);
    x.wrong(0, 1);
    DUE.is("has(0, 1, 0)", x.has(0, 1, 0), 1);
    DUE.is("has(1, 1, 0): a better one", x.has(1, 1, 0), 0);
    x.wrong(1, 1);
    x.wrong(0, 0);
    DUE.is("has(0, 1, 0)", x.has(0, 1, 0), 0);
    DUE.is("has(1, 1, 0): a better one that is WRONG", x.has(1, 1, 0), 1);
  }

  private static void ofOneArt() {
    DUE.sentence("III: WRONG is an ART of one");
    HandedOn x = some(2);
    x.art(1, 1);
    x.know(0, 1, 9);
    x.show(0, 0, 0, 2);
    x.show(0, 0, 1, 2);
    x.wrong(1, 1);
    DUE.is("has of ART 0", x.has(0, 1, 0), 0);
    DUE.is("has of ART 1", x.has(0, 1, 1), 1);
  }

  private static void behindEachDay() {
    DUE.sentence("20: LEVEL of one of an ART behind a DAY 0 .. 29 by the SHOWINGS");
    HandedOn x = some(2);
    Due.law(x, "learnt day/4+1");
    x.force(0);
    for (int day = 0; day < 30; day++) {
      x.show(day, 0, 0, 2);
    }
    for (int day = 0; day < 30; day++) {
      DUE.is("behind(" + day + ", 1, 0)", x.behind(day, 1, 0), day / 4 + 1);
      DUE.is("behind(" + day + ", 0, 0)", x.behind(day, 0, 0), 9);
    }
    DUE.is("behind(30, 1, 0)", x.behind(30, 1, 0), NONE);
    DUE.is("behind(-1, 1, 0)", x.behind(-1, 1, 0), NONE);
    DUE.is("of(1, 5): KNOWS stays", x.of(1, 5), 0);
  }

  private static void judgeDropped() {
    DUE.sentence("24: how many SHOWINGS are DROPPED, the first of them (1; NONE)");
    HandedOn x = some(2);
    DUE.is("judge(0) without any", x.judge(0), 0);
    DUE.is("judge(1) without any", x.judge(1), NONE);
    for (int i = 0; i < 60; i++) {
      x.show(29 - i % 30, 0, 0, 2);
    }
    DUE.is("judge(0), none DROPPED", x.judge(0), 0);
    DUE.is("judge(1), none DROPPED", x.judge(1), NONE);
    x.put(1, 3, 1);
    DUE.is("judge(0), on DAY 0", x.judge(0), 2);
    DUE.is("judge(1), the first by number", x.judge(1), 29);
    x.put(1, 3, 1 << 29);
    DUE.is("judge(0), on DAY 29", x.judge(0), 2);
    DUE.is("judge(1), the first by number", x.judge(1), 0);
    x.know(0, 0, 0);
    DUE.is("judge(0), all", x.judge(0), 60);
    x.know(0, 0, 9);
    x.put(1, 3, 0);
    x.put(1, 2, 1);
    DUE.is("judge(0), each second one", x.judge(0), 30);
    DUE.is("judge(1)", x.judge(1), 30);
  }

  private static void judgeHours() {
    DUE.sentence("24: hours of all (2)");
    HandedOn x = Due.crowd(8, 12, 6, 3);
    for (int i = 0; i < 8; i++) {
      x.know(i, 0, 9);
    }
    Due.law(x, "takes 12");
    x.force(0);
    for (int day = 0; day < 30; day++) {
      x.show(day, 0, 0, 14);
      x.show(day, 7, 0, 112);
    }
    DUE.is("judge(2): all hours of all DAYS", x.judge(2), 30 * 8 * 12);
    DUE.is("judge(0)", x.judge(0), 0);
    x.force(NONE);
    DUE.is("judge(2): the half", x.judge(2), 30 * 8 * 6);
  }

  private static void judgeFirstDay() {
    DUE.sentence("24: the first DAY behind which all have of all ARTS what will do (3; NONE)");
    for (int day = 0; day < 30; day++) {
      HandedOn x = some(3);
      x.know(2, 0, 8);
      x.rule(0, 2, 8);
      DUE.is("judge(3) without SHOWINGS", x.judge(3), NONE);
      x.show(day, 0, 0, 2);
      DUE.is("judge(3), LEAST is what it is HANDED", x.judge(3), day);
      x.rule(0, 2, 9);
      DUE.is("judge(3), LEAST is one more", x.judge(3), NONE);
      x.rule(0, 2, 8);
      x.art(1, 1);
      DUE.is("judge(3), of another ART nobody has what will do", x.judge(3), NONE);
      for (int i = 0; i < 3; i++) {
        x.know(i, 1, 1);
      }
      DUE.is("judge(3), all have", x.judge(3), day);
      x.know(2, 0, 7);
      DUE.is("judge(3), one has less", x.judge(3), NONE);
    }
    HandedOn x = some(2);
    x.know(1, 0, 1);
    DUE.is("judge(3), all at first: behind DAY 0", x.judge(3), 0);
  }

  private static void judgeFirstDayOfAll() {
    DUE.sentence("24: the first DAY behind which all have of all ARTS what will do, each of all");
    HandedOn x = new HandedOn();
    for (int i = 0; i < 8; i++) {
      x.one(5, 5, 4);
    }
    for (int art = 0; art < 5; art++) {
      x.art(1, 1);
    }
    for (int i = 0; i < 40; i++) {
      x.know(i % 8, i / 8, 1);
    }
    x.rule(0, 3, 30);
    DUE.is("judge(3), all have all", x.judge(3), 0);
    for (int i = 0; i < 40; i++) {
      x.know(i % 8, i / 8, 0);
      DUE.is("judge(3), but for one of one ART", x.judge(3), NONE);
      x.know(i % 8, i / 8, 1);
      x.rule(i / 8, 2, 2);
      DUE.is("judge(3), LEAST of one ART is 2", x.judge(3), NONE);
      x.rule(i / 8, 2, 1);
    }
  }

  private static void judgeNobody() {
    DUE.sentence("24: without PEOPLE or without ARTS all have what will do");
    HandedOn x = new HandedOn();
    DUE.is("judge(3), nothing", x.judge(3), 0);
    x.one(1, 1, 1);
    DUE.is("judge(3), no ART", x.judge(3), 0);
    x.art(1, 1);
    DUE.is("judge(3), one and an ART", x.judge(3), NONE);
    HandedOn y = new HandedOn();
    y.art(1, 1);
    DUE.is("judge(3), nobody", y.judge(3), 0);
    for (int what = -1; what <= 5; what++) {
      int[] due = {NONE, 0, NONE, 0, 0, 0, NONE};
      DUE.is("judge(" + what + ")", y.judge(what), due[what + 1]);
    }
  }

  private static void judgeWrong() {
    DUE.sentence("24: how many are WRONG behind DAY 29 (4: of all ARTS together)");
    HandedOn x = Due.people(12, 12, 12, 12, 12, 12, 12, 12);
    for (int art = 0; art < 5; art++) {
      x.art(1, 3);
      x.know(0, art, 9);
      x.show(29, 0, art, 14);
      x.show(29, 0, art, 112);
      x.show(28, 0, art, 128);
    }
    DUE.is("judge(4), none", x.judge(4), 0);
    int due = 0;
    for (int i = 0; i < 15; i++) {
      x.wrong(i, 1);
      due += i % 3 == 2 ? 1 : 3;
      DUE.is("judge(4), " + (i + 1) + " SHOWINGS", x.judge(4), due);
    }
    DUE.is("judge(4), all but the teller", x.judge(4), 35);
    x.know(0, 0, 0);
    DUE.is("judge(4), ART 0 is not shown", x.judge(4), 28);
  }

  private static void spentOfEach() {
    DUE.sentence("22: hours of one that went on a DAY with showing and being shown");
    HandedOn x = some(3);
    x.know(1, 0, 9);
    x.show(7, 0, 0, 2);
    x.show(7, 1, 0, 4);
    x.show(7, 1, 0, 5);
    DUE.is("spent(7, 0)", x.spent(7, 0), 2);
    DUE.is("spent(7, 1)", x.spent(7, 1), 3);
    DUE.is("spent(7, 2)", x.spent(7, 2), 2);
    DUE.is("spent(6, 1)", x.spent(6, 1), 0);
    DUE.is("spent(8, 1)", x.spent(8, 1), 0);
    DUE.is("spent(29, 1)", x.spent(29, 1), 0);
    DUE.is("spent(30, 1)", x.spent(30, 1), NONE);
    DUE.is("spent(-1, 1)", x.spent(-1, 1), NONE);
    DUE.is("spent(7, 3)", x.spent(7, 3), NONE);
    DUE.is("spent(7, -1)", x.spent(7, -1), NONE);
    Due.law(x, "takes 4");
    x.force(0);
    DUE.is("spent(7, 1), all its hours", x.spent(7, 1), 12);
  }
}
