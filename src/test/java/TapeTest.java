/** Promises 9 to 12: the TAPE and ROWS of LEVELS. */
public final class TapeTest {
  private static final Due DUE = new Due("TapeTest");

  public static void main(String[] args) {
    feed();
    end();
    row();
    bytesInOrder();
    DUE.end();
  }

  private static void feed() {
    HandedOn x = new HandedOn();
    for (int i = 1; i <= 20; i++) {
      DUE.is("feed " + i, x.feed(1, 2, 3, 4, 5), 20 * i);
    }
    DUE.is("feed beyond 400", x.feed(1, 2, 3, 4, 5), -1);
    DUE.is("count(4)", x.count(4), 400);
    DUE.is("end(381)", x.end(381), 381);
    DUE.is("feed to 401", x.feed(1, 2, 3, 4, 5), -1);
    DUE.is("count(4)", x.count(4), 381);
    DUE.is("end(380)", x.end(380), 380);
    DUE.is("feed to 400", x.feed(1, 2, 3, 4, 5), 400);
    DUE.is("status()", x.status(), 0);
  }

  private static void end() {
    HandedOn x = new HandedOn();
    DUE.is("end(0)", x.end(0), 0);
    DUE.is("end(1)", x.end(1), -1);
    DUE.is("end(-1)", x.end(-1), -1);
    x.feed(0, 0, 0, 0, 0);
    DUE.is("end(20)", x.end(20), 20);
    DUE.is("end(21)", x.end(21), -1);
    DUE.is("end(7)", x.end(7), 7);
    DUE.is("end(8)", x.end(8), -1);
    DUE.is("end(MIN)", x.end(Integer.MIN_VALUE), -1);
    DUE.is("end(MAX)", x.end(Integer.MAX_VALUE), -1);
    DUE.is("count(4)", x.count(4), 7);
  }

  private static void row() {
    HandedOn x = Due.people(4, 4, 4);
    x.art(1, 1);
    x.art(1, 1);
    DUE.refused(x, "row(2), the TAPE is empty", x.row(2), -2);
    DUE.refused(x, "row(0), the TAPE is empty", x.row(0), -6);
    x.know(2, 1, 7);
    x.feed(0x090A0000, 0, 0, 0, 0);
    x.end(2);
    DUE.refused(x, "row(2)", x.row(2), -2);
    DUE.refused(x, "row(-1)", x.row(-1), -2);
    DUE.is("count(4), not emptied", x.count(4), 2);
    DUE.is("slack() ahead of any", x.slack(), 0);
    DUE.taken(x, "row(1)", x.row(1), 1);
    DUE.is("slack()", x.slack(), 1);
    DUE.is("count(4), emptied", x.count(4), 0);
    DUE.is("of(0, 6)", x.of(0, 6), 9);
    DUE.is("of(1, 6), SLACK", x.of(1, 6), 0);
    DUE.is("of(2, 6), no byte", x.of(2, 6), 7);
    DUE.is("of(0, 5), another ART", x.of(0, 5), 0);
    DUE.refused(x, "row(1), the TAPE is empty", x.row(1), -6);
    DUE.is("slack() stays", x.slack(), 1);
    x.feed(0x00FF0380, 0, 0, 0, 0);
    DUE.taken(x, "row(1) of twenty", x.row(1), 2);
    DUE.is("slack() of twenty", x.slack(), 18);
    DUE.is("of(0, 6)", x.of(0, 6), 0);
    DUE.is("of(1, 6)", x.of(1, 6), 0);
    DUE.is("of(2, 6)", x.of(2, 6), 3);
    DUE.is("count(9)", x.count(9), 2);
    HandedOn y = new HandedOn();
    y.art(1, 1);
    y.feed(1, 1, 1, 1, 1);
    DUE.taken(y, "row without PEOPLE", y.row(0), 0);
    DUE.is("slack without PEOPLE", y.slack(), 20);
  }

  private static void bytesInOrder() {
    HandedOn x = Due.people(1, 1, 1, 1, 1, 1, 1, 1);
    x.art(1, 1);
    x.feed(0x01020304, 0x05060708, -1, -1, -1);
    DUE.taken(x, "row(0)", x.row(0), 8);
    DUE.is("slack()", x.slack(), 12);
    for (int i = 0; i < 8; i++) {
      DUE.is("of(" + i + ", 5)", x.of(i, 5), i + 1);
    }
  }
}
