/** Term V and promises 41 to 44: each sentence that names an edge of IMAGES, count and status. */
public final class ImageCountEdgesTest {
  private static final Due DUE = new Due("ImageCountEdgesTest");
  private static final int NONE = HandedOn.NONE;

  public static void main(String[] args) {
    imagesOfNothing();
    imagesOfAll();
    notKept();
    imagesStay();
    keptAnew();
    backToLess();
    backToMore();
    countsAreNotKept();
    countOfEach();
    countOfRefused();
    countOfTheLawInForce();
    statusAheadOfAny();
    statusOfOthers();
    alikeCallsAlikeAnswers();
    DUE.end();
  }

  private static void imagesOfNothing() {
    DUE.sentence("41, 42: IMAGE k is kept: 0; -1; -2 it was not kept");
    for (int k = -2; k <= 3; k++) {
      HandedOn x = new HandedOn();
      boolean canBe = k == 0 || k == 1;
      DUE.refused(x, "back(" + k + ") ahead of image", x.back(k), canBe ? -2 : -1);
      DUE.is("image(" + k + ")", x.image(k), canBe ? 0 : -1);
      DUE.is("status()", x.status(), canBe ? 0 : -1);
      x.one(1, 1, 1);
      DUE.is("back(" + k + ")", x.back(k), canBe ? 0 : -1);
      DUE.is("status()", x.status(), canBe ? 0 : -1);
      DUE.is("count(0)", x.count(0), canBe ? 0 : 1);
      DUE.refused(x, "back to the other", x.back(canBe ? 1 - k : 0), -2);
    }
  }

  /** All that there is room for. */
  private static HandedOn full() {
    HandedOn x = Due.people(4, 4, 4, 4, 4, 4, 4, 4);
    for (int i = 0; i < 5; i++) {
      x.art(1 + i, 1 + i % 3);
      x.rule(i, 2, 1 + i);
      x.know(i, i, 9 - i);
    }
    x.rule(4, 3, 1);
    x.meet(3, 4, 0);
    x.put(7, 3, 1);
    for (int i = 0; i < 6; i++) {
      Due.law(x, "learnt knows-1;wrong " + i);
    }
    x.force(5);
    for (int i = 0; i < 60; i++) {
      x.show(i % 30, i % 8, i % 5, 1 << (i + 1) % 8);
    }
    x.wrong(0, 1);
    x.talk(0, 1);
    return x;
  }

  private static void imagesOfAll() {
    DUE.sentence("V: IMAGES keep all but ..; BACK to one all that it keeps is as it was then");
    HandedOn x = full();
    x.image(0);
    HandedOn twin = full();
    twin.image(0);
    change(x);
    DUE.is("back(0)", x.back(0), 0);
    DUE.is("all as it was", Seen.of(x).equals(Seen.of(twin)) ? 1 : 0, 1);
    HandedOn y = full();
    y.image(1);
    change(y);
    HandedOn other = full();
    other.image(1);
    DUE.is("back(1)", y.back(1), 0);
    DUE.is("all as it was", Seen.of(y).equals(Seen.of(other)) ? 1 : 0, 1);
  }

  /** Each thing that an IMAGE keeps becomes another one. */
  private static void change(HandedOn x) {
    x.put(0, 0, 1);
    x.put(1, 1, 1);
    x.put(2, 2, 1);
    x.put(7, 3, 2);
    x.meet(3, 4, 1);
    x.meet(0, 1, 0);
    x.rule(0, 0, 6);
    x.rule(1, 1, 1);
    x.rule(2, 2, 9);
    x.rule(4, 3, 2);
    x.know(0, 0, 1);
    x.force(NONE);
    x.wrong(0, 0);
    x.clear();
    x.show(0, 0, 0, 2);
    x.wrong(0, 1);
    x.talk(2, 3);
  }

  private static void notKept() {
    DUE.sentence("V: all but the TAPE, FAULT, SLACK, the latest WEEK");
    HandedOn x = Due.crowd(2, 4, 1, 1);
    x.know(0, 0, 9);
    x.image(0);
    Due.law(x, "learnt ?");
    x.feed(0, 0, 0, 0, 0);
    x.row(0);
    x.know(0, 0, 9);
    x.week(0, 0);
    x.feed(0x03030303, 0, 0, 0, 0);
    x.end(2);
    x.back(0);
    DUE.is("fault()", x.fault(), 7);
    DUE.is("slack()", x.slack(), 18);
    DUE.is("drawn(0, 1)", x.drawn(0, 1), 8);
    DUE.is("count(4)", x.count(4), 2);
    DUE.taken(x, "row(0), the TAPE stands", x.row(0), 2);
    DUE.is("of(1, 5)", x.of(1, 5), 3);
    HandedOn y = new HandedOn();
    y.feed(1, 1, 1, 1, 1);
    y.image(1);
    y.end(0);
    y.back(1);
    DUE.is("count(4): a TAPE that was emptied stays so", y.count(4), 0);
  }

  private static void imagesStay() {
    DUE.sentence("V: IMAGES stay");
    HandedOn x = new HandedOn();
    x.one(1, 1, 1);
    x.image(0);
    for (int i = 0; i < 10; i++) {
      x.one(2, 2, 2);
      x.put(0, 0, 9);
      DUE.taken(x, "back(0)", x.back(0), 0);
      DUE.is("count(0)", x.count(0), 1);
      DUE.is("of(0, 0)", x.of(0, 0), 1);
    }
    x.one(3, 3, 3);
    x.image(1);
    x.back(0);
    DUE.is("count(0) of 0", x.count(0), 1);
    x.back(1);
    DUE.is("count(0) of 1", x.count(0), 2);
    x.back(0);
    DUE.is("count(0) of 0 again", x.count(0), 1);
  }

  private static void keptAnew() {
    DUE.sentence("41: IMAGE k is kept, also anew");
    HandedOn x = new HandedOn();
    for (int i = 0; i <= 8; i++) {
      DUE.taken(x, "image(0)", x.image(0), 0);
      x.one(1, 1, 1);
      x.back(0);
      DUE.is("count(0)", x.count(0), i);
      x.one(1, 1, 1);
    }
    x.back(0);
    x.image(1);
    x.back(1);
    DUE.is("count(0), one IMAGE of the other", x.count(0), 8);
  }

  private static void backToLess() {
    DUE.sentence("V: BACK: what came behind it is not there");
    HandedOn x = new HandedOn();
    x.image(0);
    x.one(1, 1, 1);
    x.one(1, 1, 1);
    x.art(1, 1);
    x.know(0, 0, 9);
    Due.law(x, "refuses");
    x.force(0);
    x.show(0, 0, 0, 2);
    x.talk(0, 1);
    x.back(0);
    for (int what = 0; what <= 3; what++) {
      DUE.is("count(" + what + ")", x.count(what), 0);
    }
    DUE.is("count(10)", x.count(10), NONE);
    DUE.is("heard(NONE)", x.heard(NONE), 0);
    DUE.refused(x, "put(0, 0, 0)", x.put(0, 0, 0), -2);
    DUE.refused(x, "rule(0, 0, 1)", x.rule(0, 0, 1), -2);
    DUE.refused(x, "force(0)", x.force(0), -2);
    DUE.refused(x, "wrong(0, 0)", x.wrong(0, 0), -2);
    DUE.is("why(0)", x.why(0), NONE);
    DUE.is("of(0, 5)", x.of(0, 5), NONE);
    x.one(2, 2, 2);
    x.art(2, 2);
    DUE.is("of(0, 5): nothing is left of what it was", x.of(0, 5), 0);
    DUE.is("heard(0)", x.heard(0), 1);
    DUE.is("rule(0, 2, 1)", x.rule(0, 2, 1), 1);
  }

  private static void backToMore() {
    DUE.sentence("V: BACK: what was there is there again");
    HandedOn x = new HandedOn();
    x.image(1);
    x.one(3, 4, 5);
    x.art(6, 3);
    x.know(0, 0, 7);
    Due.law(x, "takes 11");
    x.force(0);
    x.show(29, 0, 0, 1);
    x.wrong(0, 1);
    x.image(0);
    x.back(1);
    DUE.is("count(0)", x.count(0), 0);
    x.one(9, 9, 9);
    Due.law(x, "takes 2");
    x.back(0);
    DUE.is("of(0, 0)", x.of(0, 0), 3);
    DUE.is("of(0, 5)", x.of(0, 5), 7);
    DUE.is("count(10)", x.count(10), 0);
    DUE.is("why(0): the LAW TAKES 11", x.why(0), 3);
    DUE.is("wrong(0, 1)", x.wrong(0, 1), 1);
    DUE.is("rule(0, 1, 1)", x.rule(0, 1, 1), 3);
  }

  private static void countsAreNotKept() {
    DUE.sentence("43: how many calls were REFUSED (IMAGES do not keep that)");
    HandedOn x = new HandedOn();
    x.one(10, 0, 0);
    x.image(0);
    x.one(10, 0, 0);
    x.put(0, 0, 0);
    x.back(0);
    DUE.is("count(5)", x.count(5), 2);
    DUE.is("count(6)", x.count(6), 1);
    DUE.is("status() of back", x.status(), 0);
    x.back(1);
    DUE.is("count(6)", x.count(6), 2);
  }

  private static void countOfEach() {
    DUE.sentence("43: 0 PEOPLE, 1 ARTS, 2 LAWS, 3 SHOWINGS, 4 bytes of the TAPE: full");
    HandedOn x = full();
    for (int i = 0; i < 20; i++) {
      DUE.is("count(4)", x.count(4), 20 * i);
      x.feed(i, i, i, i, i);
    }
    int[] due = {8, 5, 6, 60, 400, 0, 0, 0, 0, 0, 5};
    for (int what = 0; what < due.length; what++) {
      DUE.is("count(" + what + ")", x.count(what), due[what]);
    }
    x.end(399);
    DUE.is("count(4)", x.count(4), 399);
    x.clear();
    DUE.is("count(3)", x.count(3), 0);
    for (int what : new int[] {-1, 11, 12, Integer.MIN_VALUE, Integer.MAX_VALUE}) {
      DUE.is("count(" + what + ")", x.count(what), NONE);
    }
  }

  private static void countOfRefused() {
    DUE.sentence("43: 5 .. 9 how many calls were REFUSED by -1, -2, -3, -5, -6");
    HandedOn x = full();
    int[] refused = new int[5];
    for (int i = 0; i < 20; i++) {
      int[] by = {x.art(0, 0), x.wrong(60, 0), x.meet(1, 1, 0), x.show(0, 0, 0, 0), x.row(0)};
      int[] due = {-1, -2, -3, -5, -6};
      for (int j = 0; j < 5; j++) {
        DUE.is("REFUSED by", by[j], due[j]);
        refused[j]++;
        DUE.is("count(" + (5 + j) + ")", x.count(5 + j), refused[j]);
      }
    }
    DUE.is("status() of the latest", x.status(), -6);
  }

  private static void countOfTheLawInForce() {
    DUE.sentence("43: 10 the LAW in FORCE");
    HandedOn x = new HandedOn();
    DUE.is("NONE at first", x.count(10), NONE);
    for (int i = 0; i < 6; i++) {
      Due.law(x, "refuses");
      DUE.is("a new one is not in FORCE", x.count(10), i - 1);
      x.force(i);
      DUE.is("count(10)", x.count(10), i);
      x.force(i + 1);
      DUE.is("count(10), behind a REFUSED one", x.count(10), i);
    }
    x.force(NONE);
    DUE.is("NONE again", x.count(10), NONE);
  }

  private static void statusAheadOfAny() {
    DUE.sentence("44: 0 if it was not, or ahead of any");
    HandedOn x = new HandedOn();
    DUE.is("ahead of any", x.status(), 0);
    x.feed(1, 1, 1, 1, 1);
    x.end(-1);
    x.clear();
    x.count(99);
    x.judge(99);
    DUE.is("ahead of any that could be REFUSED", x.status(), 0);
    DUE.refused(x, "force(0)", x.force(0), -2);
    x.clear();
    x.end(0);
    x.feed(1, 1, 1, 1, 1);
    DUE.is("status() stays behind clear, end, feed", x.status(), -2);
    DUE.taken(x, "force(NONE)", x.force(NONE), NONE);
  }

  private static void statusOfOthers() {
    DUE.sentence("44: an answer that is NONE is not REFUSED");
    HandedOn x = new HandedOn();
    DUE.taken(x, "force answers NONE", x.force(NONE), NONE);
    x.one(10, 0, 0);
    DUE.is("of answers NONE", x.of(0, 0), NONE);
    DUE.is("status() stays", x.status(), -1);
    DUE.is("count(5)", x.count(5), 1);
    x.one(0, 0, 0);
    DUE.is("of answers NONE", x.of(1, 0), NONE);
    DUE.is("status() stays", x.status(), 0);
  }

  private static void alikeCallsAlikeAnswers() {
    DUE.sentence("An object is used for at most 512 calls: objects know nothing of one another");
    HandedOn x = full();
    HandedOn between = new HandedOn();
    between.one(1, 1, 1);
    between.art(1, 1);
    between.week(0, 9);
    HandedOn y = full();
    DUE.is("made alike, they answer alike", Seen.of(x).equals(Seen.of(y)) ? 1 : 0, 1);
    DUE.is("another one is what it was", between.count(0), 1);
  }
}
