/** Term I and promises 1 to 8: each sentence that names an edge of PEOPLE and ARTS. */
public final class PeopleEdgesTest {
  private static final Due DUE = new Due("PeopleEdgesTest");
  private static final int NONE = HandedOn.NONE;
  private static final int ALL_DAYS = (1 << 30) - 1;

  public static void main(String[] args) {
    nothingAtFirst();
    eightPeople();
    fiveArts();
    learn();
    tell();
    hours();
    away();
    awayBitByBit();
    allMeetAtFirst();
    meetOrNot();
    takes();
    atOnce();
    least();
    needs();
    needsOneThatComesLater();
    knows();
    knowsForEach();
    ofWhat();
    roomAgainBehindBack();
    DUE.end();
  }

  private static void nothingAtFirst() {
    DUE.sentence("1: no PEOPLE, ARTS, LAWS");
    HandedOn x = new HandedOn();
    for (int what = 0; what <= 9; what++) {
      DUE.is("count(" + what + ")", x.count(what), 0);
    }
    DUE.is("count(10)", x.count(10), NONE);
    DUE.is("order(NONE)", x.order(NONE), 0);
    DUE.is("heard(NONE)", x.heard(NONE), 0);
    DUE.is("clear()", x.clear(), 0);
    DUE.is("end(0)", x.end(0), 0);
    DUE.is("status()", x.status(), 0);
    DUE.is("slack()", x.slack(), 0);
    DUE.is("fault()", x.fault(), NONE);
  }

  private static void eightPeople() {
    DUE.sentence("I: PEOPLE 0 .. 7 (8 at most)");
    HandedOn x = new HandedOn();
    x.art(1, 1);
    for (int i = 0; i < 8; i++) {
      DUE.refused(x, "put of one not there yet", x.put(i, 0, 1), -2);
      DUE.taken(x, "one, number " + i, x.one(5, 5, 4), i);
      DUE.taken(x, "put of the new one", x.put(i, 0, i + 1), 5);
      DUE.is("count(0)", x.count(0), i + 1);
    }
    DUE.refused(x, "one, the ninth", x.one(5, 5, 4), -5);
    DUE.refused(x, "one, the ninth again", x.one(0, 0, 0), -5);
    DUE.is("count(0)", x.count(0), 8);
    DUE.is("count(8)", x.count(8), 2);
    DUE.is("of(7, 0)", x.of(7, 0), 8);
    DUE.is("of(8, 0)", x.of(8, 0), NONE);
    DUE.taken(x, "know(7, 0, 9)", x.know(7, 0, 9), 0);
    DUE.refused(x, "know(8, 0, 9)", x.know(8, 0, 9), -2);
  }

  private static void fiveArts() {
    DUE.sentence("I: ARTS 0 .. 4 (5 at most)");
    HandedOn x = Due.people(4);
    for (int i = 0; i < 5; i++) {
      DUE.refused(x, "know of an ART not there yet", x.know(0, i, 1), -2);
      DUE.taken(x, "art, number " + i, x.art(1, 1), i);
      DUE.taken(x, "know of the new ART", x.know(0, i, i + 1), 0);
      DUE.is("count(1)", x.count(1), i + 1);
    }
    DUE.refused(x, "art, the sixth", x.art(1, 1), -5);
    DUE.refused(x, "art, the sixth again", x.art(6, 3), -5);
    DUE.is("count(1)", x.count(1), 5);
    DUE.is("count(8)", x.count(8), 2);
    DUE.is("of(0, 9)", x.of(0, 9), 5);
    DUE.taken(x, "rule(4, 2, 9)", x.rule(4, 2, 9), 1);
    DUE.refused(x, "rule(5, 2, 9)", x.rule(5, 2, 9), -2);
  }

  private static void learn() {
    DUE.sentence("I: LEARN 0 .. 9");
    for (int learn = -1; learn <= 10; learn++) {
      oneAndPut(0, learn, learn >= 0 && learn <= 9, new int[] {learn, 5, 4});
    }
  }

  private static void tell() {
    DUE.sentence("I: TELL 0 .. 9");
    for (int tell = -1; tell <= 10; tell++) {
      oneAndPut(1, tell, tell >= 0 && tell <= 9, new int[] {5, tell, 4});
    }
  }

  private static void hours() {
    DUE.sentence("I: HOURS of a day 0 .. 12");
    for (int hours = -1; hours <= 13; hours++) {
      oneAndPut(2, hours, hours >= 0 && hours <= 12, new int[] {5, 5, hours});
    }
  }

  private static void oneAndPut(int what, int value, boolean canBe, int[] one) {
    HandedOn x = Due.people(4, 4);
    int was = x.of(1, what);
    DUE.is("one with " + value, x.one(one[0], one[1], one[2]), canBe ? 2 : -1);
    DUE.is("of the new one", x.of(2, what), canBe ? value : NONE);
    DUE.is("put " + value, x.put(1, what, value), canBe ? was : -1);
    DUE.is("of behind put", x.of(1, what), canBe ? value : was);
    DUE.is("of another", x.of(0, what), was);
    DUE.is("count(5)", x.count(5), canBe ? 0 : 2);
  }

  private static void away() {
    DUE.sentence("I: AWAY: DAYS 0 .. 29 as bits (none)");
    HandedOn x = Due.people(4);
    DUE.is("of(0, 3), none at first", x.of(0, 3), 0);
    DUE.taken(x, "put all DAYS", x.put(0, 3, ALL_DAYS), 0);
    DUE.is("of(0, 3)", x.of(0, 3), ALL_DAYS);
    DUE.refused(x, "put DAY 30", x.put(0, 3, 1 << 30), -1);
    DUE.refused(x, "put DAY 30 and DAY 0", x.put(0, 3, 1 << 30 | 1), -1);
    DUE.refused(x, "put bit 31", x.put(0, 3, Integer.MIN_VALUE), -1);
    DUE.refused(x, "put -1", x.put(0, 3, -1), -1);
    DUE.is("of(0, 3) still", x.of(0, 3), ALL_DAYS);
    DUE.taken(x, "put none", x.put(0, 3, 0), ALL_DAYS);
    DUE.taken(x, "put none again", x.put(0, 3, 0), 0);
  }

  private static void awayBitByBit() {
    DUE.sentence("I: AWAY: DAYS 0 .. 29 as bits, each for its own DAY");
    for (int day = 0; day < 30; day++) {
      HandedOn x = Due.people(4, 4);
      x.art(1, 1);
      x.know(0, 0, 9);
      x.put(1, 3, 1 << day);
      for (int d = 0; d < 30; d++) {
        x.show(d, 0, 0, 2);
      }
      for (int d = 0; d < 30; d++) {
        DUE.is("AWAY on " + day + ": why on " + d, x.why(d), d == day ? 5 : 0);
      }
    }
  }

  private static void allMeetAtFirst() {
    DUE.sentence("I: all MEET at first");
    HandedOn x = new HandedOn();
    for (int n = 1; n <= 8; n++) {
      x.one(5, 5, 4);
      for (int i = 0; i < n; i++) {
        DUE.is("of(" + i + ", 4) of " + n, x.of(i, 4), ((1 << n) - 1) & ~(1 << i));
      }
    }
  }

  private static void meetOrNot() {
    DUE.sentence("4: two MEET (1) or not (0): what it was");
    for (int one = 0; one < 8; one++) {
      HandedOn x = Due.people(4, 4, 4, 4, 4, 4, 4, 4);
      for (int other = 0; other < 8; other++) {
        if (other != one) {
          DUE.taken(x, "meet, 0", x.meet(one, other, 0), 1);
          DUE.taken(x, "meet the other way, 0", x.meet(other, one, 0), 0);
          DUE.is("of the other", x.of(other, 4), 255 & ~(1 << other) & ~(1 << one));
          DUE.taken(x, "meet the other way, 1", x.meet(other, one, 1), 0);
          DUE.taken(x, "meet, 1", x.meet(one, other, 1), 1);
          DUE.taken(x, "meet, 0 for good", x.meet(one, other, 0), 1);
        }
        DUE.refused(x, "meet, 2", x.meet(one, other, 2), -1);
        DUE.refused(x, "meet, -1", x.meet(one, other, -1), -1);
      }
      DUE.is("of one who MEETS nobody", x.of(one, 4), 0);
      DUE.is("count(7)", x.count(7), 0);
    }
  }

  private static void takes() {
    DUE.sentence("I: TAKES 1 .. 6 hours");
    for (int takes = -1; takes <= 7; takes++) {
      artAndRule(0, takes, takes >= 1 && takes <= 6, new int[] {takes, 2});
    }
  }

  private static void atOnce() {
    DUE.sentence("I: AT ONCE 1 .. 3");
    for (int once = -1; once <= 4; once++) {
      artAndRule(1, once, once >= 1 && once <= 3, new int[] {2, once});
    }
  }

  private static void artAndRule(int what, int value, boolean canBe, int[] art) {
    HandedOn x = Due.people(4);
    x.art(2, 2);
    x.art(2, 2);
    DUE.is("art with " + value, x.art(art[0], art[1]), canBe ? 2 : -1);
    if (canBe) {
      DUE.is("rule tells what it was", x.rule(2, what, 1), value);
    }
    DUE.is("rule " + value, x.rule(1, what, value), canBe ? 2 : -1);
    DUE.is("rule tells what it was", x.rule(1, what, 1), canBe ? value : 2);
    DUE.is("rule of another", x.rule(0, what, 1), 2);
    DUE.is("count(5)", x.count(5), canBe ? 0 : 2);
  }

  private static void least() {
    DUE.sentence("I: LEAST 1 .. 9 (1 at first)");
    for (int least = -1; least <= 10; least++) {
      boolean canBe = least >= 1 && least <= 9;
      HandedOn x = new HandedOn();
      x.art(1, 1);
      DUE.is("rule LEAST " + least, x.rule(0, 2, least), canBe ? 1 : -1);
      DUE.is("rule tells what it was", x.rule(0, 2, 5), canBe ? least : 1);
    }
  }

  private static void needs() {
    DUE.sentence("I: NEEDS other ARTS (bits; none)");
    for (int art = 0; art < 5; art++) {
      HandedOn x = new HandedOn();
      for (int i = 0; i < 5; i++) {
        x.art(1, 1);
      }
      int was = 0;
      for (int bits = 0; bits < 32; bits++) {
        boolean canBe = (bits >> art & 1) == 0;
        DUE.is("rule(" + art + ", 3, " + bits + ")", x.rule(art, 3, bits), canBe ? was : -1);
        was = canBe ? bits : was;
      }
      DUE.is("rule(" + art + ", 3, 32)", x.rule(art, 3, 32), -1);
      DUE.is("rule(" + art + ", 3, 64)", x.rule(art, 3, 64), -1);
      DUE.is("rule(" + art + ", 3, -1)", x.rule(art, 3, -1), -1);
      DUE.is("rule(" + art + ", 3, 0)", x.rule(art, 3, 0), was);
      DUE.is("count(5)", x.count(5), 16 + 3);
    }
  }

  private static void needsOneThatComesLater() {
    DUE.sentence("6: -1 (NEEDS one that is not there, too)");
    HandedOn x = new HandedOn();
    x.art(1, 1);
    for (int next = 1; next < 5; next++) {
      DUE.refused(x, "NEEDS " + next + " ahead of it", x.rule(0, 3, 1 << next), -1);
      x.art(1, 1);
      DUE.taken(x, "NEEDS " + next + " behind it", x.rule(0, 3, 1 << next),
          next == 1 ? 0 : 1 << next - 1);
    }
  }

  private static void knows() {
    DUE.sentence("I: KNOWS: a LEVEL 0 (not) .. 9 (0 at first)");
    HandedOn x = Due.people(4);
    x.art(1, 1);
    DUE.is("of(0, 5) at first", x.of(0, 5), 0);
    int was = 0;
    for (int level = -1; level <= 10; level++) {
      boolean canBe = level >= 0 && level <= 9;
      DUE.is("know(0, 0, " + level + ")", x.know(0, 0, level), canBe ? was : -1);
      was = canBe ? level : was;
      DUE.is("of(0, 5)", x.of(0, 5), was);
    }
    DUE.taken(x, "know(0, 0, 0)", x.know(0, 0, 0), 9);
  }

  private static void knowsForEach() {
    DUE.sentence("I: KNOWS: a LEVEL of each of each ART");
    HandedOn x = Due.people(4, 4, 4, 4, 4, 4, 4, 4);
    for (int art = 0; art < 5; art++) {
      x.art(1, 1);
    }
    for (int i = 0; i < 40; i++) {
      DUE.is("know, " + i, x.know(i % 8, i / 8, i * 7 % 10), 0);
    }
    for (int i = 0; i < 40; i++) {
      DUE.is("of, " + i, x.of(i % 8, 5 + i / 8), i * 7 % 10);
    }
  }

  private static void ofWhat() {
    DUE.sentence("8: 5 .. 9 KNOWS of ARTS 0 .. 4 (0 of one that is not there)");
    HandedOn x = new HandedOn();
    x.one(1, 2, 3);
    for (int art = 0; art < 5; art++) {
      DUE.is("of an ART that is not there", x.of(0, 5 + art), 0);
      x.art(1, 1);
      DUE.is("of an ART that nobody KNOWS", x.of(0, 5 + art), 0);
      x.know(0, art, art + 4);
      DUE.is("of an ART", x.of(0, 5 + art), art + 4);
    }
    int[] due = {NONE, 1, 2, 3, 0, 0, 4, 5, 6, 7, 8, NONE};
    for (int what = -1; what <= 10; what++) {
      DUE.is("of(0, " + what + ")", x.of(0, what), due[what + 1]);
      DUE.is("of(1, " + what + ")", x.of(1, what), NONE);
      DUE.is("of(-1, " + what + ")", x.of(-1, what), NONE);
    }
  }

  private static void roomAgainBehindBack() {
    DUE.sentence("2, 5: -5, no longer behind BACK to where there was room");
    HandedOn x = new HandedOn();
    x.image(0);
    for (int i = 0; i < 9; i++) {
      x.one(1, 1, 1);
      x.art(1, 1);
    }
    DUE.is("count(8)", x.count(8), 1 + 4);
    x.back(0);
    DUE.taken(x, "one", x.one(2, 2, 2), 0);
    DUE.taken(x, "art", x.art(2, 2), 0);
    DUE.is("of(0, 4)", x.of(0, 4), 0);
  }
}
