/** Promises 34 to 38: a RING, the ORDER of ARTS, TALKS. */
public final class RingOrderTalkTest {
  private static final Due DUE = new Due("RingOrderTalkTest");

  public static void main(String[] args) {
    ring();
    ringByLaw();
    order();
    talk();
    talkAndImages();
    talks();
    DUE.end();
  }

  private static void ring() {
    HandedOn x = Due.people(0, 0, 0, 0);
    x.art(1, 1);
    x.know(1, 0, 9);
    DUE.is("ring(1, 0)", x.ring(1, 0), 5);
    DUE.is("ring(2, 0): from 1 on", x.ring(2, 0), 8);
    DUE.is("ring(0, 0)", x.ring(0, 0), 6);
    x.know(3, 0, 8);
    DUE.is("ring(1, 0): 3 has more of its own", x.ring(1, 0), 6);
    x.know(3, 0, 7);
    DUE.is("ring(1, 0): 3 is HANDED as much", x.ring(1, 0), 5);
    x.meet(1, 2, 0);
    x.put(2, 3, 1);
    DUE.is("ring(1, 0): they need not MEET, nor be there", x.ring(1, 0), 5);
    DUE.is("ring(4, 0)", x.ring(4, 0), -1);
    DUE.is("ring(-1, 0)", x.ring(-1, 0), -1);
    DUE.is("ring(0, 1)", x.ring(0, 1), -1);
    DUE.is("ring(0, -1)", x.ring(0, -1), -1);
    HandedOn y = Due.people(4);
    y.art(1, 1);
    y.know(0, 0, 6);
    DUE.is("one alone", y.ring(0, 0), 6);
    y.one(1, 1, 1);
    DUE.is("two", y.ring(0, 0), 4);
  }

  private static void ringByLaw() {
    HandedOn x = new HandedOn();
    x.one(1, 2, 0);
    x.one(3, 4, 0);
    x.one(5, 6, 0);
    x.art(1, 1);
    x.art(1, 1);
    Due.law(x, "learnt knows+learn-has+day*9+once-art");
    x.force(0);
    x.know(0, 1, 2);
    x.know(1, 1, 1);
    DUE.is("2+3-1=4, 4+5=9, 9+1-2=8", x.ring(0, 1), 8);
    DUE.is("1+5=6, 6+1-2=5, 5+3-1=7", x.ring(1, 1), 7);
    Due.law(x, "learnt 7 if teller=2;learnt 0 if not teller=2;refuses");
    x.force(1);
    DUE.is("the first is HANDED by 2", x.ring(0, 1), 7);
    DUE.is("by 0", x.ring(1, 1), 0);
  }

  private static void order() {
    HandedOn x = new HandedOn();
    DUE.is("order(0) of none", x.order(0), -1);
    DUE.is("order(-1) of none", x.order(-1), 0);
    for (int i = 0; i < 5; i++) {
      x.art(1, 1);
    }
    for (int i = 0; i < 5; i++) {
      DUE.is("order without needs", x.order(i), i);
    }
    x.rule(0, 3, 16);
    x.rule(1, 3, 1);
    x.rule(3, 3, 1 + 4);
    int[] due = {2, 4, 0, 1, 3};
    for (int i = 0; i < 5; i++) {
      DUE.is("order(" + i + ")", x.order(i), due[i]);
    }
    DUE.is("order(-1)", x.order(-1), 5);
    DUE.is("order(5)", x.order(5), -1);
    DUE.is("order(-2)", x.order(-2), -1);
    x.rule(4, 3, 2);
    DUE.is("order(-1): 0, 1, 4 need one another", x.order(-1), 1);
    DUE.is("order(0)", x.order(0), 2);
    DUE.is("order(1)", x.order(1), -1);
    x.rule(2, 3, 8);
    DUE.is("order(-1): all need one another", x.order(-1), 0);
    DUE.is("order(0)", x.order(0), -1);
    DUE.is("order(MAX)", x.order(Integer.MAX_VALUE), -1);
  }

  private static void talk() {
    HandedOn x = Due.people(0, 0, 0, 0);
    DUE.taken(x, "talk(0, 1)", x.talk(0, 1), 0);
    DUE.taken(x, "talk(2, 3)", x.talk(2, 3), 0);
    DUE.taken(x, "talk(0, 2)", x.talk(0, 2), 2);
    DUE.is("heard(3)", x.heard(3), 12);
    DUE.is("heard(1)", x.heard(1), 3);
    DUE.taken(x, "talk(1, 3)", x.talk(1, 3), 4);
    DUE.taken(x, "talk(1, 3), nothing new", x.talk(1, 3), 4);
    DUE.is("heard(-1)", x.heard(-1), 5);
    DUE.refused(x, "talk(0, 0)", x.talk(0, 0), -3);
    DUE.refused(x, "talk(4, 4)", x.talk(4, 4), -2);
    DUE.refused(x, "talk(0, 4)", x.talk(0, 4), -2);
    DUE.refused(x, "talk(-1, 0)", x.talk(-1, 0), -2);
    x.meet(0, 1, 0);
    DUE.refused(x, "talk(0, 1)", x.talk(0, 1), -3);
    DUE.is("heard(-1)", x.heard(-1), 5);
    DUE.is("heard(4)", x.heard(4), -1);
    DUE.is("heard(-2)", x.heard(-2), -1);
    x.one(1, 1, 1);
    DUE.is("heard(4)", x.heard(4), 16);
    DUE.is("heard(0)", x.heard(0), 15);
    DUE.is("talk(0, 4)", x.talk(0, 4), 2);
    HandedOn y = Due.people(0, 0);
    DUE.is("talk of two", y.talk(1, 0), 2);
  }

  private static void talkAndImages() {
    HandedOn x = Due.people(0, 0, 0);
    x.talk(0, 1);
    x.image(1);
    x.talk(1, 2);
    DUE.is("heard(-1)", x.heard(-1), 2);
    x.back(1);
    DUE.is("heard(-1)", x.heard(-1), 1);
    DUE.is("heard(2)", x.heard(2), 4);
    DUE.is("heard(1)", x.heard(1), 3);
  }

  private static void talks() {
    HandedOn x = new HandedOn();
    int[] due = {-1, 0, 1, 3, 4, 6, 8, 10, 12, 14, 16, 18, 20, -1};
    for (int n = 0; n < due.length; n++) {
      DUE.is("talks(" + n + ")", x.talks(n), due[n]);
    }
    DUE.is("talks(-1)", x.talks(-1), -1);
    DUE.is("talks(MIN)", x.talks(Integer.MIN_VALUE), -1);
  }
}
