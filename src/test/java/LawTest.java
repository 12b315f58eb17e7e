/** Promises 13 to 16: LAWS, FAULTS, which is in FORCE, and what a LAW tells. */
public final class LawTest {
  private static final Due DUE = new Due("LawTest");

  public static void main(String[] args) {
    faults();
    longOnes();
    numbersOfLaws();
    force();
    handedWithout();
    sums();
    tests();
    broken();
    lastThatHolds();
    words();
    DUE.end();
  }

  private static String times(String text, int n) {
    return text.repeat(n);
  }

  /** FAULT of a text, NONE if it is good. */
  private static void fault(String text, int place) {
    HandedOn x = new HandedOn();
    int due = place == -1 ? 0 : -6;
    String call = "law of " + (text.length() > 60 ? text.substring(0, 60) + ".." : text);
    DUE.is(call, Due.law(x, text), due);
    DUE.is("fault() of " + call, x.fault(), place);
    DUE.is("status() of " + call, x.status(), due);
    DUE.is("count(2) of " + call, x.count(2), due == 0 ? 1 : 0);
    DUE.is("count(4) of " + call, x.count(4), 0);
  }

  private static void faults() {
    fault("", 0);
    fault("   ", 3);
    fault("refuses", -1);
    fault("  refuses  ", -1);
    fault("refuses ;", 9);
    fault("refuses;;", 8);
    fault(";refuses", 0);
    fault("refuse", 0);
    fault("refusess", 0);
    fault("Refuses", 0);
    fault("refuses refuses", 8);
    fault("refuses if", 10);
    fault("refuses if   ", 13);
    fault("refuses if 1", 12);
    fault("refuses if 1=1", -1);
    fault("refuses if 1 = 1 = 1", 17);
    fault("refuses if 1 < = 1", 15);
    fault("refuses if 1=1 if 1=1", 15);
    fault("refuses if (1)=1", 13);
    fault("refuses if (1=1", 15);
    fault("refuses if (1=1)", -1);
    fault("refuses if (1=1))", 16);
    fault("refuses if (1=1]", 15);
    fault("refuses if [1=1]", 13);
    fault("refuses if [1]=1", -1);
    fault("refuses if not 1=1", -1);
    fault("refuses if not", 14);
    fault("refuses if not not(1=1)or not 2>1 and knows<has", -1);
    fault("refuses if and 1=1", 11);
    fault("refuses if 1=1 and", 18);
    fault("refuses if 1=1 and or 1=1", 19);
    fault("refuses if 1=1 or (2=2)", -1);
    fault("refuses if ()", 12);
    fault("learnt", 6);
    fault("learnt if", 7);
    fault("learnt 1 2", 9);
    fault("learnt 1+", 9);
    fault("learnt -1", 7);
    fault("learnt 1+-1", 9);
    fault("learnt (1)", 7);
    fault("learnt []", 8);
    fault("learnt [1", 9);
    fault("learnt [1)", 9);
    fault("learnt 1]", 8);
    fault("learnt1if1=1", -1);
    fault("learntknows", 0);
    fault("learnt knowshas", 7);
    fault("learnt knows1", 12);
    fault("learnt 1knows", 8);
    fault("learnt 1000", -1);
    fault("learnt 1001", 7);
    fault("learnt 0001000", -1);
    fault("learnt 00001001", 7);
    fault("learnt 4294967296", 7);
    fault("learnt 18446744073709551617", 7);
    fault("learnt 1 . 5", 9);
    fault("learnt knowsa", 7);
    fault("learnt knowsz", 7);
    fault("learnt knows`", 12);
    fault("learnt knows{", 12);
    fault("learnt 9:", 8);
    fault("learnt 0/9", -1);
    fault("learnt\t1", 6);
    fault("learnt 1" + (char) 0, 8);
    fault("learnt 1" + (char) 233, 8);
    fault("learnt 1 &lt; 2", 9);
    fault("takes learnt", 6);
    fault("wrong wrong", 6);
    fault("takes knows*has/tell+learn-art*day+teller-learner+once", -1);
    fault("learnt 1 if 1 if", 14);
  }

  private static void longOnes() {
    fault("refuses" + times(";refuses", 11), -1);
    fault("refuses" + times(";refuses", 12), 96);
    fault("refuses" + times(";refuses", 11) + "; ", 97);
    fault("refuses" + times(";refuses", 11) + "; ;", 97);
    fault("learnt 1" + times("+1", 49), -1);
    fault("learnt 1" + times("+1", 50), 8 + 2 * 49 + 1);
    fault("learnt 1" + times("+1", 48) + ";takes 1;takes 2", 8 + 2 * 48 + 1 + 8 + 6);
    fault("learnt " + times("[", 8) + "1" + times("]", 8), -1);
    fault("learnt " + times("[", 9) + "1" + times("]", 9), 15);
    fault("refuses if " + times("(", 8) + "1=1" + times(")", 8), -1);
    fault("refuses if " + times("(", 9) + "1=1" + times(")", 9), 19);
    fault("refuses if " + times("(", 4) + times("[", 4) + "1" + times("]", 4) + "=1"
        + times(")", 4), -1);
    fault("refuses if " + times("(", 4) + times("[", 5) + "1", 19);
    fault("learnt [[[[1]]]]+[[[[[[[[1]]]]]]]]", -1);
    fault("refuses if " + times("not ", 96) + "1=1", -1);
    fault("refuses if " + times("not ", 97), 11 + 4 * 97);
    fault("learnt " + times("0", 390) + "7", -1);
    fault("learnt " + times("9", 393), 7);
    fault(times(" ", 393) + "refuses", -1);
    fault(times(" ", 400), 400);
    fault(times("a", 400), 0);
  }

  private static void numbersOfLaws() {
    HandedOn x = new HandedOn();
    for (int i = 0; i < 6; i++) {
      DUE.taken(x, "law " + i, Due.law(x, "learnt " + i), i);
    }
    DUE.is("law() with an empty TAPE, no room", x.law(), -5);
    DUE.refused(x, "law, the seventh", Due.law(x, "bad"), -5);
    DUE.is("count(4)", x.count(4), 0);
    DUE.is("fault() stays", x.fault(), -1);
    DUE.is("count(2)", x.count(2), 6);
    DUE.is("count(8)", x.count(8), 2);
    DUE.is("count(9)", x.count(9), 0);
    HandedOn y = new HandedOn();
    DUE.refused(y, "law() of an empty TAPE", y.law(), -6);
    DUE.is("fault()", y.fault(), 0);
    Due.law(y, "learnt ?");
    DUE.is("fault()", y.fault(), 7);
    Due.law(y, "learnt 1");
    DUE.is("fault() behind a good one", y.fault(), -1);
  }

  private static void force() {
    HandedOn x = Due.people(4, 4);
    x.art(1, 1);
    DUE.refused(x, "force(0)", x.force(0), -2);
    DUE.refused(x, "force(-2)", x.force(-2), -2);
    Due.law(x, "learnt 3");
    Due.law(x, "learnt 4");
    DUE.is("not in FORCE yet", x.handed(0, 1, 0, 0), 0);
    DUE.taken(x, "force(1)", x.force(1), -1);
    DUE.is("count(10)", x.count(10), 1);
    DUE.is("by the second", x.handed(0, 1, 0, 0), 4);
    DUE.taken(x, "force(0)", x.force(0), 1);
    DUE.is("by the first", x.handed(0, 1, 0, 0), 3);
    DUE.refused(x, "force(2)", x.force(2), -2);
    DUE.refused(x, "force(MIN)", x.force(Integer.MIN_VALUE), -2);
    DUE.is("count(10)", x.count(10), 0);
    DUE.taken(x, "force(-1)", x.force(-1), 0);
    DUE.is("by none", x.handed(0, 1, 0, 0), 0);
    DUE.is("count(10)", x.count(10), -1);
  }

  private static void handedWithout() {
    HandedOn x = Due.people(4, 4);
    x.art(3, 1);
    x.know(0, 0, 9);
    DUE.is("handed(0, 1, 0, 0)", x.handed(0, 1, 0, 0), 8);
    DUE.is("handed(1, 0, 0, 0), not below 0", x.handed(1, 0, 0, 0), 0);
    DUE.is("handed(0, 1, 0, 1)", x.handed(0, 1, 0, 1), 3);
    DUE.is("handed(0, 1, 0, 2)", x.handed(0, 1, 0, 2), 0);
    DUE.is("handed(0, 1, 0, 3)", x.handed(0, 1, 0, 3), 0);
    int[][] none = {{0, 1, 0, 4}, {0, 1, 0, -1}, {0, 0, 0, 0}, {0, 2, 0, 0}, {2, 0, 0, 0},
        {0, 1, 1, 0}, {-1, 0, 0, 0}, {0, -1, 0, 0}, {0, 1, -1, 0}};
    for (int[] n : none) {
      DUE.is("handed of none", x.handed(n[0], n[1], n[2], n[3]), -1);
    }
  }

  /** Two PEOPLE: 0 tells (TELL 7, LEVEL 6), 1 learns (LEARN 3, LEVEL 2); ART 1 TAKES 4. */
  private static HandedOn two() {
    HandedOn x = new HandedOn();
    x.one(1, 7, 4);
    x.one(3, 2, 4);
    x.art(1, 1);
    x.art(4, 2);
    x.know(0, 1, 6);
    x.know(1, 1, 2);
    return x;
  }

  private static void tells(String text, int what, int due) {
    HandedOn x = two();
    DUE.is("law of " + text, Due.law(x, text), 0);
    x.force(0);
    DUE.is(text, x.handed(0, 1, 1, what), due);
  }

  private static void sums() {
    tells("learnt 2+3*2", 0, 8);
    tells("learnt [2+3]*1", 0, 5);
    tells("learnt 9-3-2", 0, 4);
    tells("learnt 9-[3-2]", 0, 8);
    tells("learnt 100/10/2", 0, 5);
    tells("learnt 7/2", 0, 3);
    tells("learnt [1-8]/2+9", 0, 6);
    tells("learnt 0-5", 0, 0);
    tells("learnt 10", 0, 9);
    tells("takes 0", 1, 1);
    tells("takes 12", 1, 12);
    tells("takes 13", 1, 12);
    tells("takes 0-7", 1, 1);
    tells("wrong 100", 3, 100);
    tells("wrong 101", 3, 100);
    tells("wrong 0-1", 3, 0);
    tells("refuses", 2, 1);
    tells("learnt 3", 1, 4);
    tells("learnt 3", 2, 0);
    tells("learnt 3", 3, 0);
    tells("takes 3", 0, 5);
    tells("wrong 50", 0, 5);
    tells("learnt 0007", 0, 7);
  }

  private static void tests() {
    tells("refuses if 1<2", 2, 1);
    tells("refuses if 2<2", 2, 0);
    tells("refuses if 2>2", 2, 0);
    tells("refuses if 3>2", 2, 1);
    tells("refuses if 2=2", 2, 1);
    tells("refuses if 2=3", 2, 0);
    tells("refuses if not 2=3", 2, 1);
    tells("refuses if not not 2=3", 2, 0);
    tells("refuses if not 1=2 and 1=2", 2, 0);
    tells("refuses if not(1=2 and 1=2)", 2, 1);
    tells("refuses if 1=1 or 1=1 and 1=2", 2, 1);
    tells("refuses if (1=1 or 1=1) and 1=2", 2, 0);
    tells("refuses if 1=2 and 1=1 or 1=1", 2, 1);
    tells("refuses if 1=2 and (1=1 or 1=1)", 2, 0);
    tells("refuses if 1=1 and 1=1 and 1=2", 2, 0);
    tells("refuses if 1=2 or 1=2 or 1=1", 2, 1);
    tells("refuses if not (not (1=1))", 2, 1);
    tells("learnt 2 if 1+1=2", 0, 2);
    tells("learnt 2 if 1+1=3", 0, 5);
  }

  private static void broken() {
    tells("learnt 1/0", 0, 5);
    tells("learnt 3;learnt 1/0", 0, 3);
    tells("learnt 3 if 1/0=1", 0, 5);
    tells("learnt 3 if not 1/0=1", 0, 5);
    tells("learnt 3 if 1=1 or 1/0=1", 0, 3);
    tells("learnt 3 if 1=2 or 1/0=1", 0, 5);
    tells("learnt 3 if 1/0=1 or 1=1", 0, 5);
    tells("learnt 3 if 1=2 and 1/0=1 or 2=2", 0, 3);
    tells("learnt 3 if 1=1 and 1/0=1 or 2=2", 0, 5);
    tells("learnt 3 if not(1=2 and 1/0=1)", 0, 3);
    tells("learnt 3 if 1=1 or 1/0=1 and 1=2", 0, 3);
    tells("learnt 1000*1000*1000-1000*1000*999-999*1000-997", 0, 3);
    tells("learnt 1000*1000*1000", 0, 9);
    tells("learnt 1000*1000*1000+1", 0, 5);
    tells("learnt 1000*1000*1000+1-1", 0, 5);
    tells("learnt 1-1000*1000*1000-1", 0, 0);
    tells("learnt 0-1000*1000*1000-1", 0, 5);
    tells("learnt 1000*1000*1000*1000", 0, 5);
    tells("learnt 1000*1000*1000*1000/1000/1000/1000/1000", 0, 5);
    tells("learnt [1000*1000*1000]*[1000*1000*1000]", 0, 5);
    tells("learnt [1000*1000*1000]*[0-1000*1000*1000]", 0, 5);
    tells("learnt 1000*1000*1000*0", 0, 0);
    tells("takes 1/0", 1, 4);
    tells("wrong 1/0", 3, 0);
    tells("refuses if 1/0=1", 2, 0);
    tells("refuses if 0/0=0", 2, 0);
  }

  private static void lastThatHolds() {
    tells("learnt 1;learnt 2;learnt 3", 0, 3);
    tells("learnt 1;learnt 2;learnt 3 if 1=2", 0, 2);
    tells("learnt 1 if 1=1;takes 9;learnt 2 if 1=2", 0, 1);
    tells("learnt 1 if 1=1;takes 9;learnt 2 if 1=2", 1, 9);
    tells("refuses;refuses if 1=2", 2, 1);
    tells("refuses if 1=2;wrong 3;takes 5;learnt 1", 3, 3);
  }

  private static void words() {
    tells("takes knows", 1, 6);
    tells("takes has", 1, 2);
    tells("takes tell", 1, 7);
    tells("takes learn", 1, 3);
    tells("takes art+4", 1, 5);
    tells("takes day+4", 1, 4);
    tells("takes teller+4", 1, 4);
    tells("takes learner+4", 1, 5);
    tells("takes once+4", 1, 5);
    tells("learnt knows-1+learn/3", 0, 6);
    HandedOn x = two();
    Due.law(x, "takes 1+tell*10/7");
    x.force(0);
    DUE.is("the other way round", x.handed(1, 0, 1, 1), 3);
  }
}
