/** Promises 1 to 8: a new object, PEOPLE, ARTS, who MEETS whom and who KNOWS what. */
public final class PeopleAndArtsTest {
  private static final Due DUE = new Due("PeopleAndArtsTest");
  private static final int MIN = Integer.MIN_VALUE;
  private static final int MAX = Integer.MAX_VALUE;

  public static void main(String[] args) {
    newObject();
    one();
    put();
    meet();
    art();
    rule();
    know();
    of();
    DUE.end();
  }

  private static void newObject() {
    HandedOn x = new HandedOn();
    for (int what = 0; what <= 9; what++) {
      DUE.is("new: count(" + what + ")", x.count(what), 0);
    }
    DUE.is("new: count(10)", x.count(10), -1);
    DUE.is("new: status()", x.status(), 0);
    DUE.is("new: slack()", x.slack(), 0);
    DUE.is("new: fault()", x.fault(), -1);
    DUE.is("new: of(0, 0)", x.of(0, 0), -1);
    DUE.is("new: heard(-1)", x.heard(-1), 0);
    DUE.is("new: heard(0)", x.heard(0), -1);
    DUE.is("new: drawn(0, -1)", x.drawn(0, -1), -1);
    DUE.is("new: judge(0)", x.judge(0), 0);
    DUE.is("new: judge(1)", x.judge(1), -1);
    DUE.is("new: judge(2)", x.judge(2), 0);
    DUE.is("new: judge(3)", x.judge(3), 0);
    DUE.is("new: judge(4)", x.judge(4), 0);
    DUE.is("new: left(0)", x.left(0), -1);
    DUE.is("new: force(-1)", x.force(-1), -1);
    DUE.is("new: status() behind force(-1)", x.status(), 0);
  }

  private static void one() {
    HandedOn x = new HandedOn();
    int[][] bad = {{-1, 0, 0}, {10, 0, 0}, {0, -1, 0}, {0, 10, 0}, {0, 0, -1}, {0, 0, 13},
        {MIN, 0, 0}, {0, MAX, 0}, {0, 0, MAX}};
    for (int[] b : bad) {
      DUE.refused(x, "one of a bad number", x.one(b[0], b[1], b[2]), -1);
    }
    DUE.taken(x, "one(0, 0, 0)", x.one(0, 0, 0), 0);
    DUE.taken(x, "one(9, 9, 12)", x.one(9, 9, 12), 1);
    for (int i = 2; i < 8; i++) {
      DUE.taken(x, "one " + i, x.one(i, 9 - i, i), i);
    }
    DUE.refused(x, "one, the ninth", x.one(1, 1, 1), -5);
    DUE.refused(x, "one, the ninth with a bad number", x.one(1, 1, 13), -1);
    DUE.is("count(0)", x.count(0), 8);
    DUE.is("count(5)", x.count(5), bad.length + 1);
    DUE.is("count(8)", x.count(8), 1);
    for (int i = 2; i < 8; i++) {
      DUE.is("of(i, 0)", x.of(i, 0), i);
      DUE.is("of(i, 1)", x.of(i, 1), 9 - i);
      DUE.is("of(i, 2)", x.of(i, 2), i);
      DUE.is("of(i, 3)", x.of(i, 3), 0);
      DUE.is("of(i, 4)", x.of(i, 4), 255 & ~(1 << i));
      DUE.is("heard(i)", x.heard(i), 1 << i);
    }
  }

  private static void put() {
    HandedOn x = Due.people(4, 4);
    int[] most = {9, 9, 12, (1 << 30) - 1};
    int[] was = {5, 5, 4, 0};
    for (int what = 0; what < 4; what++) {
      DUE.taken(x, "put most", x.put(1, what, most[what]), was[what]);
      DUE.is("of most", x.of(1, what), most[what]);
      DUE.is("of the other", x.of(0, what), was[what]);
      DUE.refused(x, "put above", x.put(1, what, most[what] + 1), -1);
      DUE.refused(x, "put below", x.put(1, what, -1), -1);
      DUE.is("of most still", x.of(1, what), most[what]);
      DUE.taken(x, "put 0", x.put(1, what, 0), most[what]);
      DUE.is("of 0", x.of(1, what), 0);
      DUE.refused(x, "put of nobody", x.put(2, what, 0), -2);
      DUE.refused(x, "put of -1", x.put(-1, what, 0), -2);
      DUE.refused(x, "put of nobody and a bad number", x.put(2, what, -1), -1);
    }
    DUE.refused(x, "put what 4", x.put(0, 4, 0), -1);
    DUE.refused(x, "put what -1", x.put(0, -1, 0), -1);
    DUE.refused(x, "put what MIN", x.put(MAX, MIN, 0), -1);
    DUE.refused(x, "put AWAY MIN", x.put(0, 3, MIN), -1);
  }

  private static void meet() {
    HandedOn x = Due.people(4, 4, 4);
    DUE.taken(x, "meet(0, 2, 0)", x.meet(0, 2, 0), 1);
    DUE.is("of(0, 4)", x.of(0, 4), 2);
    DUE.is("of(2, 4)", x.of(2, 4), 2);
    DUE.is("of(1, 4)", x.of(1, 4), 5);
    DUE.taken(x, "meet(2, 0, 0)", x.meet(2, 0, 0), 0);
    DUE.taken(x, "meet(2, 0, 1)", x.meet(2, 0, 1), 0);
    DUE.taken(x, "meet(0, 2, 1)", x.meet(0, 2, 1), 1);
    DUE.is("of(0, 4)", x.of(0, 4), 6);
    DUE.refused(x, "meet(0, 1, 2)", x.meet(0, 1, 2), -1);
    DUE.refused(x, "meet(0, 1, -1)", x.meet(0, 1, -1), -1);
    DUE.refused(x, "meet(0, 0, 2)", x.meet(0, 0, 2), -1);
    DUE.refused(x, "meet(3, 0, 1)", x.meet(3, 0, 1), -2);
    DUE.refused(x, "meet(0, 3, 1)", x.meet(0, 3, 1), -2);
    DUE.refused(x, "meet(0, -1, 1)", x.meet(0, -1, 1), -2);
    DUE.refused(x, "meet(3, 3, 1)", x.meet(3, 3, 1), -2);
    DUE.refused(x, "meet(1, 1, 0)", x.meet(1, 1, 0), -3);
    DUE.is("count(7)", x.count(7), 1);
    x.meet(0, 1, 0);
    x.one(1, 1, 1);
    DUE.is("of(3, 4): all MEET a new one", x.of(3, 4), 7);
    DUE.is("of(0, 4)", x.of(0, 4), 12);
  }

  private static void art() {
    HandedOn x = Due.people(4);
    int[][] bad = {{0, 1}, {7, 1}, {1, 0}, {1, 4}, {-1, 1}, {1, -1}, {MIN, MAX}};
    for (int[] b : bad) {
      DUE.refused(x, "art of a bad number", x.art(b[0], b[1]), -1);
    }
    DUE.taken(x, "art(1, 1)", x.art(1, 1), 0);
    DUE.taken(x, "art(6, 3)", x.art(6, 3), 1);
    for (int i = 2; i < 5; i++) {
      DUE.taken(x, "art " + i, x.art(i, 2), i);
    }
    DUE.refused(x, "art, the sixth", x.art(1, 1), -5);
    DUE.refused(x, "art, the sixth with a bad number", x.art(0, 1), -1);
    DUE.is("count(1)", x.count(1), 5);
    DUE.is("rule(1, 0, 1)", x.rule(1, 0, 1), 6);
    DUE.is("rule(1, 1, 1)", x.rule(1, 1, 1), 3);
    DUE.is("rule(1, 2, 1)", x.rule(1, 2, 1), 1);
    DUE.is("rule(1, 3, 0)", x.rule(1, 3, 0), 0);
    DUE.is("of(0, 5)", x.of(0, 5), 0);
  }

  private static void rule() {
    HandedOn x = new HandedOn();
    x.art(2, 2);
    x.art(3, 3);
    x.art(4, 1);
    int[] least = {1, 1, 1, 0};
    int[] most = {6, 3, 9, 5};
    int[] was = {3, 3, 1, 0};
    for (int what = 0; what < 4; what++) {
      DUE.taken(x, "rule most", x.rule(1, what, most[what]), was[what]);
      DUE.taken(x, "rule least", x.rule(1, what, least[what]), most[what]);
      DUE.taken(x, "rule most again", x.rule(1, what, most[what]), least[what]);
      DUE.refused(x, "rule below", x.rule(1, what, least[what] - 1), -1);
      DUE.refused(x, "rule of none", x.rule(3, what, least[what]), -2);
      DUE.refused(x, "rule of -1", x.rule(-1, what, least[what]), -2);
      DUE.refused(x, "rule of 40", x.rule(40, what, least[what]), -2);
      DUE.refused(x, "rule of none and below", x.rule(3, what, least[what] - 1), -1);
    }
    DUE.refused(x, "rule TAKES 7", x.rule(1, 0, 7), -1);
    DUE.refused(x, "rule AT ONCE 4", x.rule(1, 1, 4), -1);
    DUE.refused(x, "rule LEAST 10", x.rule(1, 2, 10), -1);
    DUE.refused(x, "rule NEEDS itself", x.rule(1, 3, 2), -1);
    DUE.refused(x, "rule NEEDS itself and another", x.rule(1, 3, 3), -1);
    DUE.refused(x, "rule NEEDS one that is not there", x.rule(1, 3, 8), -1);
    DUE.refused(x, "rule NEEDS 32", x.rule(1, 3, 32), -1);
    DUE.refused(x, "rule NEEDS MIN", x.rule(1, 3, MIN), -1);
    DUE.refused(x, "rule of none NEEDS one that is not there", x.rule(3, 3, 8), -1);
    DUE.refused(x, "rule what 4", x.rule(1, 4, 1), -1);
    DUE.refused(x, "rule what -1", x.rule(1, -1, 1), -1);
    DUE.taken(x, "rule NEEDS one another", x.rule(0, 3, 2), 0);
    DUE.is("rule NEEDS stands", x.rule(1, 3, 0), 5);
  }

  private static void know() {
    HandedOn x = Due.people(4, 4);
    x.art(1, 1);
    x.art(1, 1);
    DUE.taken(x, "know(1, 1, 9)", x.know(1, 1, 9), 0);
    DUE.taken(x, "know(1, 1, 4)", x.know(1, 1, 4), 9);
    DUE.is("of(1, 6)", x.of(1, 6), 4);
    DUE.is("of(1, 5)", x.of(1, 5), 0);
    DUE.is("of(0, 6)", x.of(0, 6), 0);
    DUE.refused(x, "know 10", x.know(1, 1, 10), -1);
    DUE.refused(x, "know -1", x.know(1, 1, -1), -1);
    DUE.refused(x, "know of nobody 10", x.know(2, 1, 10), -1);
    DUE.refused(x, "know of nobody", x.know(2, 1, 1), -2);
    DUE.refused(x, "know of no ART", x.know(1, 2, 1), -2);
    DUE.refused(x, "know of ART -1", x.know(1, -1, 1), -2);
    DUE.refused(x, "know of ART 5", x.know(0, 5, 1), -2);
    DUE.is("of(1, 6) still", x.of(1, 6), 4);
    DUE.is("of(0, 5) still", x.of(0, 5), 0);
    DUE.taken(x, "know(1, 1, 0)", x.know(1, 1, 0), 4);
  }

  private static void of() {
    HandedOn x = new HandedOn();
    x.one(1, 2, 3);
    x.one(4, 5, 6);
    x.put(0, 3, 77);
    x.art(1, 1);
    x.know(0, 0, 8);
    int[] due = {1, 2, 3, 77, 2, 8, 0, 0, 0, 0};
    for (int what = 0; what < due.length; what++) {
      DUE.is("of(0, " + what + ")", x.of(0, what), due[what]);
    }
    int status = x.status();
    DUE.is("of(0, 10)", x.of(0, 10), -1);
    DUE.is("of(0, -1)", x.of(0, -1), -1);
    DUE.is("of(2, 0)", x.of(2, 0), -1);
    DUE.is("of(-1, 0)", x.of(-1, 0), -1);
    DUE.is("of(MIN, MAX)", x.of(MIN, MAX), -1);
    DUE.is("status() stays", x.status(), status);
  }
}
