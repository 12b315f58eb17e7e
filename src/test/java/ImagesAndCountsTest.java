/** Promises 41 to 44: IMAGES, BACK, count and status. */
public final class ImagesAndCountsTest {
  private static final Due DUE = new Due("ImagesAndCountsTest");

  public static void main(String[] args) {
    refused();
    allGoneBackTo();
    notKept();
    twoImages();
    imagesStandAlone();
    count();
    status();
    DUE.end();
  }

  private static void refused() {
    HandedOn x = new HandedOn();
    int[] bad = {-1, 2, 3, Integer.MIN_VALUE, Integer.MAX_VALUE};
    for (int k : bad) {
      DUE.refused(x, "image(" + k + ")", x.image(k), -1);
      DUE.refused(x, "back(" + k + ")", x.back(k), -1);
    }
    DUE.refused(x, "back(0)", x.back(0), -2);
    DUE.refused(x, "back(1)", x.back(1), -2);
    DUE.taken(x, "image(1)", x.image(1), 0);
    DUE.refused(x, "back(0)", x.back(0), -2);
    DUE.taken(x, "back(1)", x.back(1), 0);
    DUE.is("count(5)", x.count(5), 10);
    DUE.is("count(6)", x.count(6), 3);
  }

  private static HandedOn world() {
    HandedOn x = Due.people(4, 4, 4);
    x.put(1, 3, 6);
    x.meet(0, 2, 0);
    x.art(2, 2);
    x.rule(0, 2, 3);
    x.know(0, 0, 5);
    Due.law(x, "learnt knows");
    x.force(0);
    x.show(0, 0, 0, 2);
    x.wrong(0, 1);
    x.talk(0, 1);
    return x;
  }

  private static void isWorld(String when, HandedOn x) {
    DUE.is(when + "count(0)", x.count(0), 3);
    DUE.is(when + "count(1)", x.count(1), 1);
    DUE.is(when + "count(2)", x.count(2), 1);
    DUE.is(when + "count(3)", x.count(3), 1);
    DUE.is(when + "count(10)", x.count(10), 0);
    DUE.is(when + "of(1, 0)", x.of(1, 0), 5);
    DUE.is(when + "of(1, 3)", x.of(1, 3), 6);
    DUE.is(when + "of(0, 4)", x.of(0, 4), 2);
    DUE.is(when + "of(0, 5)", x.of(0, 5), 5);
    DUE.is(when + "behind(0, 1, 0)", x.behind(0, 1, 0), 5);
    DUE.is(when + "has(0, 1, 0)", x.has(0, 1, 0), 1);
    DUE.is(when + "heard(0)", x.heard(0), 3);
    DUE.is(when + "heard(2)", x.heard(2), 4);
    DUE.is(when + "heard(-1)", x.heard(-1), 1);
    DUE.is(when + "handed(0, 1, 0, 0)", x.handed(0, 1, 0, 0), 5);
    DUE.is(when + "soonest(0)", x.soonest(0), 4);
  }

  private static void changeAll(HandedOn x) {
    x.one(1, 1, 1);
    x.put(1, 0, 9);
    x.put(1, 3, 0);
    x.meet(0, 2, 1);
    x.meet(3, 0, 0);
    x.art(1, 1);
    x.rule(0, 0, 1);
    x.rule(0, 3, 2);
    x.know(0, 0, 2);
    x.know(3, 1, 2);
    Due.law(x, "learnt 1");
    x.force(1);
    x.clear();
    x.show(1, 1, 1, 1);
    x.show(1, 1, 1, 1);
    x.talk(1, 2);
    x.talk(2, 3);
  }

  private static void allGoneBackTo() {
    HandedOn x = world();
    isWorld("at first: ", x);
    x.image(0);
    isWorld("kept: ", x);
    changeAll(x);
    DUE.is("count(0)", x.count(0), 4);
    DUE.is("soonest is another", x.soonest(0), 2);
    x.back(0);
    isWorld("back: ", x);
    DUE.is("rule(0, 0, 2): TAKES as it was", x.rule(0, 0, 2), 2);
    DUE.is("rule(0, 2, 3): LEAST as it was", x.rule(0, 2, 3), 3);
    DUE.is("rule(0, 3, 0): NEEDS as it was", x.rule(0, 3, 0), 0);
    DUE.is("one: a new one is new", x.one(7, 7, 7), 3);
    DUE.is("of(3, 4)", x.of(3, 4), 7);
    DUE.is("heard(3)", x.heard(3), 8);
    DUE.is("art: a new one is new", x.art(1, 1), 1);
    DUE.is("of(3, 6)", x.of(3, 6), 0);
    DUE.is("rule(1, 2, 1)", x.rule(1, 2, 1), 1);
    changeAll(x);
    x.back(0);
    isWorld("back again: ", x);
  }

  private static void notKept() {
    HandedOn x = Due.people(4, 4);
    x.art(1, 1);
    x.know(0, 0, 9);
    x.feed(1, 2, 3, 4, 5);
    x.image(0);
    x.know(9, 9, 9);
    x.know(0, 0, 10);
    Due.law(x, "learnt ?");
    x.feed(-1, 0, 0, 0, 0);
    x.row(0);
    x.feed(1, 2, 3, 4, 5);
    x.end(5);
    x.week(0, 0);
    x.back(0);
    DUE.is("count(4): the TAPE", x.count(4), 5);
    DUE.is("fault()", x.fault(), 7);
    DUE.is("slack()", x.slack(), 20);
    DUE.is("drawn(0, 1)", x.drawn(0, 1), 8);
    DUE.is("count(5)", x.count(5), 1);
    DUE.is("count(6)", x.count(6), 1);
    DUE.is("count(9)", x.count(9), 1);
  }

  private static void twoImages() {
    HandedOn x = new HandedOn();
    x.image(0);
    x.one(1, 1, 1);
    x.image(1);
    x.one(1, 1, 1);
    x.back(0);
    DUE.is("back(0)", x.count(0), 0);
    x.back(1);
    DUE.is("back(1)", x.count(0), 1);
    x.image(0);
    x.one(1, 1, 1);
    x.back(0);
    DUE.is("image(0) anew", x.count(0), 1);
    x.back(1);
    DUE.is("IMAGES stay", x.count(0), 1);
  }

  private static void imagesStandAlone() {
    HandedOn x = world();
    x.image(0);
    x.back(0);
    changeAll(x);
    x.back(0);
    isWorld("changed behind back: ", x);
    HandedOn y = new HandedOn();
    for (int i = 0; i < 6; i++) {
      Due.law(y, "learnt " + i);
    }
    y.image(1);
    HandedOn z = Due.people(1, 1);
    z.art(1, 1);
    Due.law(z, "learnt 1");
    z.image(0);
    Due.law(z, "learnt 2");
    z.image(1);
    z.back(0);
    Due.law(z, "learnt 3");
    z.force(1);
    DUE.is("the LAW that was read anew", z.handed(0, 1, 0, 0), 3);
    z.back(1);
    z.force(1);
    DUE.is("the LAW of the IMAGE", z.handed(0, 1, 0, 0), 2);
  }

  private static void count() {
    HandedOn x = world();
    x.feed(1, 2, 3, 4, 5);
    int[] due = {3, 1, 1, 1, 20, 0, 0, 0, 0, 0, 0};
    for (int what = 0; what < due.length; what++) {
      DUE.is("count(" + what + ")", x.count(what), due[what]);
    }
    x.one(-1, 0, 0);
    x.put(9, 0, 0);
    x.put(9, 0, 0);
    x.talk(0, 0);
    x.talk(0, 2);
    x.talk(0, 0);
    for (int i = 0; i < 4; i++) {
      x.art(1, 1);
    }
    for (int i = 0; i < 4; i++) {
      x.art(1, 1);
    }
    for (int i = 0; i < 5; i++) {
      x.law();
    }
    for (int what = 5; what < 10; what++) {
      DUE.is("count(" + what + ")", x.count(what), what - 4);
    }
    int[] none = {-1, 11, Integer.MIN_VALUE, Integer.MAX_VALUE};
    for (int n : none) {
      DUE.is("count(" + n + ")", x.count(n), -1);
    }
  }

  private static void status() {
    HandedOn x = new HandedOn();
    DUE.refused(x, "one", x.one(10, 0, 0), -1);
    x.of(7, 7);
    x.feed(1, 2, 3, 4, 5);
    x.end(400);
    x.handed(0, 0, 0, 0);
    x.clear();
    x.behind(-1, 0, 0);
    x.why(0);
    x.judge(9);
    x.soonest(0);
    x.first(0, 0);
    x.fewest(0, 0);
    x.alike(0, 0, 0, 0);
    x.ring(0, 0);
    x.order(9);
    x.heard(9);
    x.talks(0);
    x.drawn(9, 9);
    x.count(99);
    x.slack();
    x.fault();
    DUE.is("status() of the latest that could be REFUSED", x.status(), -1);
    DUE.is("count(5)", x.count(5), 1);
    DUE.taken(x, "one", x.one(0, 0, 0), 0);
    DUE.refused(x, "put", x.put(1, 0, 0), -2);
    DUE.refused(x, "meet", x.meet(0, 0, 0), -3);
    DUE.taken(x, "art", x.art(1, 1), 0);
    DUE.refused(x, "rule", x.rule(0, 0, 0), -1);
    DUE.refused(x, "know", x.know(0, 1, 0), -2);
    DUE.taken(x, "row", x.row(0), 1);
    DUE.refused(x, "row", x.row(0), -6);
    DUE.refused(x, "force", x.force(0), -2);
    DUE.taken(x, "law", Due.law(x, "refuses"), 0);
    DUE.refused(x, "show", x.show(0, 0, 0, 2), -1);
    DUE.taken(x, "force", x.force(0), -1);
    DUE.refused(x, "wrong", x.wrong(0, 0), -2);
    DUE.taken(x, "show", x.show(0, 0, 0, 1), 0);
    DUE.refused(x, "talk", x.talk(0, 0), -3);
    DUE.taken(x, "wrong", x.wrong(0, 0), 0);
    DUE.refused(x, "week", x.week(0, -1), -1);
    DUE.taken(x, "week", x.week(0, 0), 0);
    DUE.refused(x, "image", x.image(2), -1);
    DUE.taken(x, "image", x.image(0), 0);
    DUE.refused(x, "back", x.back(1), -2);
    DUE.taken(x, "back", x.back(0), 0);
  }
}
