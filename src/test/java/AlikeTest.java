/** Promises 32 and 33: ALIKE ones by counts. */
public final class AlikeTest {
  private static final Due DUE = new Due("AlikeTest");

  public static void main(String[] args) {
    byHand();
    allWays();
    none();
    DUE.end();
  }

  private static void byHand() {
    HandedOn x = new HandedOn();
    DUE.is("one alone", x.alike(1, 1, 5, 5), 0);
    DUE.is("one alone, below", x.alike(1, 1, 5, 4), 0);
    DUE.is("one alone, too well", x.alike(1, 1, 5, 6), -1);
    DUE.is("two, as well as the first", x.alike(2, 3, 5, 5), -1);
    DUE.is("two, one less", x.alike(2, 3, 5, 4), 1);
    DUE.is("LEVEL 1 shows nothing", x.alike(2, 1, 1, 1), -1);
    DUE.is("twelve, one less: the first alone shows", x.alike(12, 1, 9, 8), 11);
    DUE.is("twelve, two less: 1, 2, 4, 7, 11, 16", x.alike(12, 1, 9, 7), 5);
    DUE.is("twelve, any: 1, 2, 4, 8, 16", x.alike(12, 1, 9, 1), 4);
    DUE.is("twelve by three: 1, 4, 16", x.alike(12, 3, 9, 1), 2);
    DUE.is("twelve by three, one less: 1, 4, 7, 10, 13", x.alike(12, 3, 9, 8), 4);
    DUE.is("well(12, 1, 9, 11)", x.well(12, 1, 9, 11), 8);
    DUE.is("well(12, 1, 9, 10)", x.well(12, 1, 9, 10), 7);
    DUE.is("well(12, 1, 9, 5)", x.well(12, 1, 9, 5), 7);
    DUE.is("well(12, 1, 9, 4): 1 + 4 + 6 + 4", x.well(12, 1, 9, 4), 6);
    DUE.is("well(12, 1, 9, 3)", x.well(12, 1, 9, 3), 0);
    DUE.is("well(12, 1, 9, 12)", x.well(12, 1, 9, 12), 8);
    DUE.is("well(1, 1, 4, 0)", x.well(1, 1, 4, 0), 4);
    DUE.is("well(2, 1, 4, 0)", x.well(2, 1, 4, 0), 0);
    DUE.is("well(2, 1, 1, 12)", x.well(2, 1, 1, 12), 0);
  }

  private static void allWays() {
    PlainModel plain = new PlainModel();
    HandedOn x = new HandedOn();
    for (int m = 1; m <= 12; m++) {
      for (int k = 1; k <= 3; k++) {
        for (int t = 1; t <= (m > 7 ? 4 : 9); t++) {
          for (int w = 1; w <= 9; w++) {
            String call = "alike(" + m + ", " + k + ", " + t + ", " + w + ")";
            DUE.is(call, x.alike(m, k, t, w), plain.alike(m, k, t, w));
          }
        }
        x = new HandedOn();
      }
    }
  }

  private static void none() {
    HandedOn x = new HandedOn();
    int[][] bad = {{0, 1, 1, 1}, {13, 1, 1, 1}, {1, 0, 1, 1}, {1, 4, 1, 1}, {1, 1, 0, 1},
        {1, 1, 10, 1}, {-1, 1, 1, 1}, {1, 1, 1, -1}, {1, 1, 1, Integer.MAX_VALUE}};
    for (int[] b : bad) {
      DUE.is("alike of a bad number", x.alike(b[0], b[1], b[2], b[3]), -1);
      DUE.is("well of a bad number", x.well(b[0], b[1], b[2], b[3]), -1);
    }
    DUE.is("alike(1, 1, 9, 0)", x.alike(1, 1, 9, 0), -1);
    DUE.is("alike(1, 1, 9, 10)", x.alike(1, 1, 9, 10), -1);
    DUE.is("well(1, 1, 9, 0)", x.well(1, 1, 9, 0), 9);
    DUE.is("well(1, 1, 9, 12)", x.well(1, 1, 9, 12), 9);
    DUE.is("well(1, 1, 9, 13)", x.well(1, 1, 9, 13), -1);
    DUE.is("count(5)", x.count(5), 0);
  }
}
