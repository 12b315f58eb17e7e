/** Counts the answers of a test and prints those that are not due. */
final class Due {
  private final String test;
  private String sentence = "";
  private int asked;
  private int wrong;

  Due(String test) {
    this.test = test;
  }

  /** What is asked from here on belongs to this sentence of the document. */
  void sentence(String told) {
    sentence = " (" + told + ")";
  }

  void is(String call, long got, long want) {
    asked++;
    if (got != want) {
      wrong++;
      System.out.println(test + sentence + ": " + call + " answered " + got + ", due is " + want);
    }
  }

  /** A call that is REFUSED says so in its answer and in status(). */
  void refused(HandedOn x, String call, int got, int by) {
    is(call, got, by);
    is("status() behind " + call, x.status(), by);
  }

  /** A call that is not REFUSED leaves status() 0. */
  void taken(HandedOn x, String call, int got, int want) {
    is(call, got, want);
    is("status() behind " + call, x.status(), 0);
  }

  void end() {
    System.out.println(test + ": " + asked + " answers, " + wrong + " of them not as due");
    if (wrong != 0 || asked == 0) {
      System.exit(1);
    }
  }

  /** The TAPE is this text then. */
  static void feed(HandedOn x, String text) {
    x.end(0);
    for (int at = 0; at < text.length(); at += 20) {
      int[] five = new int[5];
      for (int i = 0; i < 20; i++) {
        int sign = at + i < text.length() ? text.charAt(at + i) : 0;
        five[i / 4] = five[i / 4] << 8 | sign;
      }
      x.feed(five[0], five[1], five[2], five[3], five[4]);
    }
    x.end(text.length());
  }

  static int law(HandedOn x, String text) {
    feed(x, text);
    return x.law();
  }

  /** So many alike ones, and one ART. */
  static HandedOn crowd(int number, int hours, int takes, int once) {
    HandedOn x = new HandedOn();
    for (int i = 0; i < number; i++) {
      x.one(5, 5, hours);
    }
    x.art(takes, once);
    return x;
  }

  /** People with LEARN 5, TELL 5 and so many HOURS. */
  static HandedOn people(int... hours) {
    HandedOn x = new HandedOn();
    for (int h : hours) {
      x.one(5, 5, h);
    }
    return x;
  }
}
