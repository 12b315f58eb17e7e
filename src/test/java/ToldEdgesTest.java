/** Term II and promise 16: each sentence that names an edge of what a LAW tells. */
public final class ToldEdgesTest {
  private static final Due DUE = new Due("ToldEdgesTest");
  private static final int NONE = HandedOn.NONE;
  // 1,000,000,000, the greatest that is not BROKEN.
  private static final String MOST = "1000*1000*1000";

  public static void main(String[] args) {
    beyond();
    beyondOnTheWay();
    beyondInTests();
    dividedByNothing();
    cutTowardsNothing();
    orAsks();
    andAsks();
    theLastThatHolds();
    learntNearest();
    takesNearest();
    wrongNearest();
    refuses();
    without();
    askedOf();
    handedOfWhat();
    handedByWhatStands();
    comparisons();
    DUE.end();
  }

  /** 0 tells (TELL 7, LEVEL 6), 1 learns (LEARN 3, LEVEL 2); ART 1 TAKES 4. */
  private static HandedOn two() {
    HandedOn x = new HandedOn();
    x.one(1, 7, 4);
    x.one(3, 2, 4);
    x.art(1, 1);
    x.art(4, 2);
    x.know(0, 1, 6);
    x.know(1, 1, 2);
    return x;
  }

  private static void tells(String text, int what, int due) {
    HandedOn x = two();
    DUE.is("law of " + text, Due.law(x, text), 0);
    x.force(0);
    DUE.is(text, x.handed(0, 1, 1, what), due);
  }

  /** Whether it holds: 7 is told, if it does; 5, one LEVEL less than the teller's, else. */
  private static void holds(String test, boolean due) {
    tells("learnt 7 if " + test, 0, due ? 7 : 5);
  }

  /** Whether the SUM is BROKEN, on both sides of both signs. */
  private static void broken(String sum, boolean due) {
    tells("learnt 7;learnt 1+0*[" + sum + "]", 0, due ? 7 : 1);
    holds(sum + "=" + sum + " or 1=1", !due);
    holds("0<" + sum + " or 1=1", !due);
    holds("not " + sum + "=0 or 1=1", !due);
  }

  private static void beyond() {
    DUE.sentence("II: beyond 1,000,000,000 either way a SUM is BROKEN");
    broken(MOST, false);
    broken(MOST + "+1", true);
    broken(MOST + "-1", false);
    broken("0-" + MOST, false);
    broken("0-" + MOST + "-1", true);
    broken("0-" + MOST + "+1", false);
    broken("1+" + MOST, true);
    broken("0-1-" + MOST, true);
    broken("999*1000*1000+1000*1000", false);
    broken("999*1000*1000+1000*1000+1", true);
    broken("1000*1000*999+999*1000+999+1", false);
    broken("[0-1000]*1000*1000", false);
    broken("[0-1000]*1000*1000-1", true);
    broken("[0-1000]*[0-1000]*1000", false);
    broken("1000*1000*[0-1000]", false);
    broken("1000*1000*1000/1", false);
  }

  private static void beyondOnTheWay() {
    DUE.sentence("II: beyond 1,000,000,000 a SUM is BROKEN, also one that comes back from there");
    broken(MOST + "+1-1", true);
    broken("1-1+" + MOST, false);
    broken("[" + MOST + "+1]-1", true);
    broken(MOST + "*1000/1000", true);
    broken(MOST + "*2/2", true);
    broken(MOST + "/1000*1000", false);
    broken("[999+1]*1000*1000", false);
    broken("[1000+1]*1000*1000", true);
    broken("[1000+1]*1000*1000*0", true);
    broken(MOST + "*[" + MOST + "]", true);
    broken("[0-" + MOST + "]*[" + MOST + "]", true);
    broken("[" + MOST + "]*[" + MOST + "]*16", true);
  }

  private static void beyondInTests() {
    DUE.sentence("II: beyond 1,000,000,000 either way a TEST is BROKEN");
    holds(MOST + "=" + MOST, true);
    holds(MOST + ">" + MOST + "-1", true);
    holds(MOST + "<" + MOST + "+1", false);
    holds("not " + MOST + ">" + MOST + "+1", false);
    holds("not " + MOST + "+1=0", false);
    holds("0-" + MOST + "<" + MOST, true);
    holds("0-" + MOST + "-1<" + MOST, false);
    holds("(" + MOST + "+1>0)", false);
    holds("not (" + MOST + "+1<0)", false);
  }

  private static void dividedByNothing() {
    DUE.sentence("II: divided by 0 a SUM, a TEST is BROKEN");
    broken("1/0", true);
    broken("0/0", true);
    broken("0/1", false);
    broken("1/[1-1]", true);
    broken("1/[0-1]", false);
    broken("1/day", true);
    broken("1/once", false);
    broken("5/[has-2]", true);
    broken("5/[has-3]", false);
    broken("1/0*0", true);
    broken("0*[1/0]", true);
    broken("1/[1/2]", true);
  }

  private static void cutTowardsNothing() {
    DUE.sentence("II: / is cut towards 0");
    holds("7/2=3", true);
    holds("8/2=4", true);
    holds("1/2=0", true);
    holds("[0-7]/2=0-3", true);
    holds("7/[0-2]=0-3", true);
    holds("[0-7]/[0-2]=3", true);
    holds("[0-1]/2=0", true);
    holds("[0-1]/1000=0", true);
    holds("7/2*2=6", true);
    holds(MOST + "/[0-1]=0-" + MOST, true);
  }

  private static void orAsks() {
    DUE.sentence("II: \"or\" asks what stands behind only if it can still matter");
    holds("1=1 or 1/0=1", true);
    holds("1=2 or 1/0=1", false);
    holds("1/0=1 or 1=1", false);
    holds("1=1 or 1/0=1 or 1/0=1", true);
    holds("1=2 or 1=1 or 1/0=1", true);
    holds("1=2 or 1/0=1 or 1=1", false);
    holds("1=1 or 1/0=1 and 1=1", true);
    holds("1=1 or 1=1 and 1/0=1", true);
    holds("(1=1 or 1/0=1) and 1=1", true);
    holds("not (1=1 or 1/0=1) or 2=2", true);
    holds("1=1 or not 1/0=1", true);
    holds("1=1 or (1/0=1)", true);
    holds("1=1 or " + MOST + "+1=1", true);
  }

  private static void andAsks() {
    DUE.sentence("II: \"and\" asks what stands behind only if it can still matter");
    holds("not (1=2 and 1/0=1)", true);
    holds("not (1=1 and 1/0=1)", false);
    holds("not (1/0=1 and 1=2)", false);
    holds("not (1=2 and 1/0=1 and 1/0=1)", true);
    holds("not (1=1 and 1=2 and 1/0=1)", true);
    holds("not (1=1 and 1/0=1 and 1=2)", false);
    holds("1=2 and 1/0=1 or 1=1", true);
    holds("1=1 and 1/0=1 or 1=1", false);
    holds("1=2 and (1/0=1 or 1=1) or 1=1", true);
    holds("1=2 and not 1/0=1 or 1=1", true);
  }

  private static void theLastThatHolds() {
    DUE.sentence("II: told by a HEAD is what the last CLAUSE with it that HOLDS tells");
    tells("learnt 1;learnt 2", 0, 2);
    tells("learnt 1;learnt 2 if 1=2", 0, 1);
    tells("learnt 1;learnt 2 if 1/0=1", 0, 1);
    tells("learnt 1;learnt 1/0", 0, 1);
    tells("learnt 1;learnt 1/0 if 1=2", 0, 1);
    tells("learnt 1/0;learnt 1", 0, 1);
    tells("learnt 1 if 1=2;learnt 2 if 1=2", 0, 5);
    tells("learnt 1;takes 2;wrong 3", 0, 1);
    tells("learnt 1;takes 2;wrong 3;refuses if 1=2", 1, 2);
    tells("learnt 1;takes 2;wrong 3", 3, 3);
    tells("refuses;refuses if 1=2;refuses if 1/0=1", 2, 1);
    tells("refuses if 1=2;refuses if 1/0=1", 2, 0);
    tells("learnt 3" + ";learnt 4 if 1=2".repeat(11), 0, 3);
  }

  private static void learntNearest() {
    DUE.sentence("II: HANDED on is what \"learnt\" tells, 0 .. 9 (else the nearest)");
    for (int n = 0; n <= 12; n++) {
      tells("learnt " + n, 0, Math.min(n, 9));
      tells("learnt 0-" + n, 0, 0);
    }
    tells("learnt " + MOST, 0, 9);
    tells("learnt 0-" + MOST, 0, 0);
    tells("learnt " + MOST + "+1", 0, 5);
  }

  private static void takesNearest() {
    DUE.sentence("II: it TAKES what \"takes\" tells, 1 .. 12 (else the nearest)");
    for (int n = 0; n <= 15; n++) {
      tells("takes " + n, 1, Math.max(1, Math.min(n, 12)));
      tells("takes 0-" + n, 1, 1);
    }
    tells("takes " + MOST, 1, 12);
    tells("takes 0-" + MOST, 1, 1);
    tells("takes " + MOST + "+1", 1, 4);
  }

  private static void wrongNearest() {
    DUE.sentence("V: what \"wrong\" tells (0 .. 100, else the nearest; 0 without)");
    for (int n : new int[] {0, 1, 50, 99, 100, 101, 102, 1000}) {
      tells("wrong " + n, 3, Math.min(n, 100));
      tells("wrong 0-" + n, 3, 0);
    }
    tells("wrong " + MOST, 3, 100);
    tells("wrong 0-" + MOST, 3, 0);
    tells("wrong " + MOST + "+1", 3, 0);
    tells("learnt 1", 3, 0);
  }

  private static void refuses() {
    DUE.sentence("II: a learner \"refuses\" what it holds for");
    tells("refuses", 2, 1);
    tells("refuses if has=2", 2, 1);
    tells("refuses if has=3", 2, 0);
    tells("refuses if 1/0=1", 2, 0);
    tells("learnt 0", 2, 0);
    HandedOn x = two();
    Due.law(x, "refuses if learner=1");
    x.force(0);
    DUE.is("1 refuses", x.handed(0, 1, 1, 2), 1);
    DUE.is("0 does not", x.handed(1, 0, 1, 2), 0);
  }

  private static void without() {
    DUE.sentence("II: HANDED on without \"learnt\": one LEVEL less; it TAKES what the ART TAKES");
    for (int level = 0; level <= 9; level++) {
      for (int takes = 1; takes <= 6; takes++) {
        HandedOn x = Due.people(4, 4);
        x.art(takes, 1);
        x.know(0, 0, level);
        for (int laws = 0; laws < 2; laws++) {
          DUE.is("HANDED on of LEVEL " + level, x.handed(0, 1, 0, 0), Math.max(level - 1, 0));
          DUE.is("TAKES of " + takes, x.handed(0, 1, 0, 1), takes);
          DUE.is("refuses", x.handed(0, 1, 0, 2), 0);
          DUE.is("wrong", x.handed(0, 1, 0, 3), 0);
          Due.law(x, "learnt 9 if 1=2;takes 9 if 1=2;wrong 9 if 1=2;refuses if 1=2");
          x.force(0);
        }
      }
    }
  }

  private static void askedOf() {
    DUE.sentence("II: a LAW is asked of a teller and a learner, the ART, the DAY, and once");
    String[] words = {"knows", "has", "tell", "learn", "art", "day", "teller", "learner", "once"};
    int[] due = {6, 2, 7, 3, 1, 0, 0, 1, 1};
    int[] back = {2, 6, 2, 1, 1, 0, 1, 0, 1};
    for (int i = 0; i < words.length; i++) {
      HandedOn x = two();
      Due.law(x, "wrong " + words[i]);
      x.force(0);
      DUE.is(words[i], x.handed(0, 1, 1, 3), due[i]);
      DUE.is(words[i] + ", the other way", x.handed(1, 0, 1, 3), back[i]);
    }
    HandedOn x = Due.people(0, 0, 0, 0, 0, 0, 0, 0);
    for (int i = 0; i < 5; i++) {
      x.art(1, 1);
    }
    Due.law(x, "wrong teller*10+learner;takes art+1");
    x.force(0);
    DUE.is("7 shows 6", x.handed(7, 6, 4, 3), 76);
    DUE.is("0 shows 7", x.handed(0, 7, 4, 3), 7);
    DUE.is("ART 4", x.handed(7, 6, 4, 1), 5);
    DUE.is("ART 0", x.handed(7, 6, 0, 1), 1);
  }

  private static void handedOfWhat() {
    DUE.sentence("16: handed, NONE (the same one, too)");
    HandedOn x = two();
    for (int what = -2; what <= 5; what++) {
      boolean canBe = what >= 0 && what <= 3;
      DUE.is("handed(0, 1, 1, " + what + ") told", x.handed(0, 1, 1, what) != NONE ? 1 : 0,
          canBe ? 1 : 0);
      DUE.is("the same one", x.handed(1, 1, 1, what), NONE);
      DUE.is("nobody", x.handed(2, 1, 1, what), NONE);
      DUE.is("nobody", x.handed(0, 2, 1, what), NONE);
      DUE.is("nobody", x.handed(2, 2, 1, what), NONE);
      DUE.is("no ART", x.handed(0, 1, 2, what), NONE);
    }
  }

  private static void handedByWhatStands() {
    DUE.sentence("16: by KNOWS, DAY 0, once 1");
    HandedOn x = two();
    Due.law(x, "learnt knows+day*9-once;takes has+once");
    x.force(0);
    DUE.is("HANDED on", x.handed(0, 1, 1, 0), 5);
    x.show(0, 0, 1, 2);
    x.show(5, 1, 1, 1);
    DUE.is("what was shown does not matter", x.handed(1, 0, 1, 0), 1);
    DUE.is("TAKES", x.handed(0, 1, 1, 1), 3);
    x.meet(0, 1, 0);
    x.put(0, 3, 1);
    x.put(1, 2, 0);
    DUE.is("whether they MEET, are AWAY, have hours does not matter", x.handed(0, 1, 1, 0), 5);
    x.know(0, 1, 0);
    DUE.is("a teller that does not KNOW it", x.handed(0, 1, 1, 0), 0);
  }

  private static void comparisons() {
    DUE.sentence("II: PLAIN: SUM (\"<\" | \">\" | \"=\") SUM, at their edges");
    for (int a = 0; a <= 2; a++) {
      for (int b = 0; b <= 2; b++) {
        holds(a + "<" + b, a < b);
        holds(a + ">" + b, a > b);
        holds(a + "=" + b, a == b);
        holds("not " + a + "<" + b, a >= b);
        holds("not " + a + ">" + b, a <= b);
        holds("not " + a + "=" + b, a != b);
        holds("not not " + a + "<" + b, a < b);
        holds("0-" + a + "<0-" + b, a > b);
      }
    }
    HandedOn x = two();
    Due.law(x, "learnt 7 if " + "not ".repeat(90) + "1=1");
    Due.law(x, "learnt 7 if " + "not ".repeat(91) + "1=1");
    x.force(0);
    DUE.is("an even row of not", x.handed(0, 1, 1, 0), 7);
    x.force(1);
    DUE.is("an odd row of not", x.handed(0, 1, 1, 0), 5);
  }
}
