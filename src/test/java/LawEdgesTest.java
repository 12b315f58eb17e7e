/** Term II and promises 9 to 16: each sentence that names an edge of the TAPE and of LAWS. */
public final class LawEdgesTest {
  private static final Due DUE = new Due("LawEdgesTest");
  private static final int NONE = HandedOn.NONE;
  private static final String[] HEADS = {"learnt", "takes", "refuses", "wrong"};

  public static void main(String[] args) {
    tape();
    fourBytesOfEach();
    bytesOfEdges();
    end();
    sixLaws();
    inForce();
    letters();
    digits();
    blanks();
    everyByte();
    whatNeverGoesOn();
    whatGoesOn();
    longestRows();
    clauses();
    numbers();
    parts();
    partsOfEachKind();
    brackets();
    bracketsSideBySide();
    eachTextAnew();
    faultAtTheEnd();
    faultOfTheLatest();
    DUE.end();
  }

  private static void tape() {
    DUE.sentence("II: a TAPE of at most 400 bytes");
    for (int had = 360; had <= 400; had++) {
      HandedOn x = new HandedOn();
      for (int i = 0; i < 20; i++) {
        DUE.is("feed", x.feed(i, i, i, i, i), 20 * (i + 1));
      }
      DUE.is("end(" + had + ")", x.end(had), had);
      DUE.is("feed behind " + had, x.feed(1, 2, 3, 4, 5), had <= 380 ? had + 20 : NONE);
      DUE.is("count(4) behind " + had, x.count(4), had <= 380 ? had + 20 : had);
      DUE.is("status()", x.status(), 0);
    }
  }

  private static void fourBytesOfEach() {
    DUE.sentence("9: four of each number, the highest first");
    for (int at = 0; at < 20; at++) {
      HandedOn x = Due.people(4);
      x.art(1, 1);
      int[] five = new int[5];
      five[at / 4] = 7 << 8 * (3 - at % 4);
      x.feed(five[0], five[1], five[2], five[3], five[4]);
      StringBuilder text = new StringBuilder();
      for (int i = 0; i < at; i++) {
        text.append(' ');
      }
      DUE.is("row: one byte for one", x.row(0), 1);
      DUE.is("of(0, 5)", x.of(0, 5), at == 0 ? 7 : 0);
      five[at / 4] = 0x20202020 & ~(255 << 8 * (3 - at % 4)) | '?' << 8 * (3 - at % 4);
      for (int i = 0; i < 5; i++) {
        five[i] = i == at / 4 ? five[i] : 0x20202020;
      }
      x.feed(five[0], five[1], five[2], five[3], five[4]);
      DUE.is("law", x.law(), -6);
      DUE.is("FAULT at the only byte that is no blank", x.fault(), text.length());
    }
  }

  private static void bytesOfEdges() {
    DUE.sentence("9: bytes of the least and the greatest int");
    HandedOn x = Due.people(4, 4, 4, 4, 4, 4, 4, 4);
    x.art(1, 1);
    x.feed(Integer.MIN_VALUE, Integer.MAX_VALUE, 0, 0, 0);
    DUE.taken(x, "row: 128, 0, 0, 0, 127, 255, 255, 255", x.row(0), 3);
    DUE.is("slack()", x.slack(), 17);
    x.feed(-1, 0x09090909, 0, 0, 0);
    DUE.taken(x, "row: 255 four times, 9 four times", x.row(0), 4);
    DUE.is("of(3, 5)", x.of(3, 5), 0);
    DUE.is("of(4, 5)", x.of(4, 5), 9);
    DUE.is("of(7, 5)", x.of(7, 5), 9);
    x.feed(0x0A090A09, 0x10801009, 0, 0, 0);
    DUE.taken(x, "row: 10, 9, 10, 9, 16, 128, 16, 9", x.row(0), 3);
  }

  private static void end() {
    DUE.sentence("10: end, NONE, if it has not so many, or n is below 0");
    HandedOn x = new HandedOn();
    DUE.is("end(0) of nothing", x.end(0), 0);
    DUE.is("end(1) of nothing", x.end(1), NONE);
    x.feed(1, 2, 3, 4, 5);
    for (int n = 20; n >= 0; n--) {
      DUE.is("end, one more than it has", x.end(n + 1), NONE);
      DUE.is("end, all that it has", x.end(n), n);
      DUE.is("end, one less", x.end(Math.max(n - 1, 0)), Math.max(n - 1, 0));
      DUE.is("end(-1)", x.end(-1), NONE);
      DUE.is("count(4)", x.count(4), Math.max(n - 1, 0));
    }
    DUE.is("feed behind end(0)", x.feed(1, 2, 3, 4, 5), 20);
  }

  private static void sixLaws() {
    DUE.sentence("II: LAWS, 6 at most");
    HandedOn x = Due.people(4, 4);
    x.art(1, 1);
    for (int i = 0; i < 6; i++) {
      DUE.refused(x, "force of one not there yet", x.force(i), -2);
      DUE.taken(x, "law, number " + i, Due.law(x, "learnt " + (i + 1)), i);
      DUE.is("count(2)", x.count(2), i + 1);
    }
    DUE.refused(x, "law, the seventh", Due.law(x, "learnt 9"), -5);
    DUE.refused(x, "law, the seventh, bad", Due.law(x, "learnt"), -5);
    DUE.is("count(2)", x.count(2), 6);
    DUE.is("count(4): the TAPE is empty, too", x.count(4), 0);
    DUE.is("fault(): no TEXT was read", x.fault(), NONE);
    for (int i = 0; i < 6; i++) {
      DUE.taken(x, "force(" + i + ")", x.force(i), i - 1);
      DUE.is("by LAW " + i, x.handed(0, 1, 0, 0), i + 1);
    }
    DUE.refused(x, "force(6)", x.force(6), -2);
  }

  private static void inForce() {
    DUE.sentence("II: one is in FORCE (NONE at first: no CLAUSE)");
    HandedOn x = Due.people(4, 4);
    x.art(3, 1);
    x.know(0, 0, 6);
    Due.law(x, "learnt 1;takes 1;wrong 1;refuses");
    int[] without = {5, 3, 0, 0};
    int[] by = {1, 1, 1, 1};
    for (int what = 0; what < 4; what++) {
      DUE.is("NONE at first", x.handed(0, 1, 0, what), without[what]);
    }
    DUE.taken(x, "force(NONE)", x.force(NONE), NONE);
    DUE.taken(x, "force(0)", x.force(0), NONE);
    for (int what = 0; what < 4; what++) {
      DUE.is("LAW 0", x.handed(0, 1, 0, what), by[what]);
    }
    DUE.taken(x, "force(0) again", x.force(0), 0);
    DUE.refused(x, "force(-2)", x.force(-2), -2);
    DUE.taken(x, "force(NONE) again", x.force(NONE), 0);
    for (int what = 0; what < 4; what++) {
      DUE.is("NONE again", x.handed(0, 1, 0, what), without[what]);
    }
  }

  /** FAULT of a text, NONE if it is good. */
  private static void fault(String text, int place) {
    HandedOn x = new HandedOn();
    int due = place == NONE ? 0 : -6;
    String call = "law of " + (text.length() > 60 ? text.substring(0, 60) + ".." : text);
    DUE.is(call, Due.law(x, text), due);
    DUE.is("fault() of " + call, x.fault(), place);
    DUE.is("status() of " + call, x.status(), due);
    DUE.is("count(2) of " + call, x.count(2), due == 0 ? 1 : 0);
    DUE.is("count(4) of " + call, x.count(4), 0);
    DUE.is("count(9) of " + call, x.count(9), due == 0 ? 0 : 1);
  }

  private static void letters() {
    DUE.sentence("II: TOKENS: longest rows of letters a .. z");
    fault("refuses`", 7);
    fault("refuses{", 7);
    fault("refusesa", 0);
    fault("refusesz", 0);
    fault("refuses if art=`", 15);
    fault("{refuses", 0);
    fault("REFUSES", 0);
    fault("refuseS", 0);
  }

  private static void digits() {
    DUE.sentence("II: TOKENS: longest rows of digits");
    fault("learnt 0", NONE);
    fault("learnt 9", NONE);
    fault("learnt 10", NONE);
    fault("learnt 1 0", 9);
    fault("learnt 1:", 8);
    fault("learnt :", 7);
    fault("learnt /", 7);
    fault("learnt 1/", 9);
    fault("learnt 100" + '0', NONE);
    fault("learnt 1000" + '0', 7);
  }

  private static void blanks() {
    DUE.sentence("II: any blanks (32) between");
    fault("learnt" + (char) 32 + "1", NONE);
    fault("learnt" + (char) 31 + "1", 6);
    fault("learnt" + (char) 33 + "1", 6);
    fault("learnt" + (char) 9 + "1", 6);
    fault("learnt" + (char) 160 + "1", 6);
    fault("   learnt   1   +   2   if   1   <   2   ", NONE);
    fault("learnt1+2if(1<2)and[3]=3;refuses", NONE);
    fault(" ".repeat(392) + "learnt 1", NONE);
    fault("learnt 1" + " ".repeat(392), NONE);
    fault("learnt" + " ".repeat(393) + "1", NONE);
    fault("learnt" + " ".repeat(394), 400);
  }

  private static void everyByte() {
    DUE.sentence("II: TOKENS: single other bytes");
    for (int sign = 0; sign < 256; sign++) {
      int due = 8;
      if (sign >= '0' && sign <= '9' || sign == ' ') {
        due = NONE;
      } else if (";+-*/".indexOf(sign) >= 0) {
        due = 9;
      }
      fault("learnt 1" + (char) sign, due);
      boolean begins = sign == ' ';
      fault((char) sign + "learnt 1", begins ? NONE : 0);
    }
  }

  private static void whatNeverGoesOn() {
    DUE.sentence("II: FAULT: the first TOKEN that can't go on there, wherever it stands");
    String[] tokens = {"learnt", "[", "knows", "+", "1", "]", "*", "has", "/", "2", "-", "tell",
        "if", "not", "not", "(", "(", "learn", "<", "art", "and", "day", ">", "3", ")", "or", "not",
        "teller", "=", "learner", ")", "and", "once", "<", "[", "[", "4", "]", "]", ";", "refuses"};
    String[] never = {"?", "Q", "" + (char) 200, "" + (char) 0, "zz", "lear", "1001", ".", "{"};
    for (int at = 0; at <= tokens.length; at++) {
      StringBuilder before = new StringBuilder();
      StringBuilder behind = new StringBuilder();
      for (int i = 0; i < tokens.length; i++) {
        (i < at ? before : behind).append(tokens[i]).append(" ");
      }
      for (String token : never) {
        fault(before + token + " " + behind, before.length());
      }
      fault(before.toString() + behind, NONE);
    }
  }

  private static void whatGoesOn() {
    DUE.sentence("II: FAULT: what can go on, place by place");
    String heads = "learnt takes wrong refuses ";
    String parts = "0 7 1000 [ knows has tell learn art day teller learner once ";
    String joins = "+ - * / ";
    goesOn("", heads, false);
    goesOn("refuses ;", heads, false);
    goesOn("learnt", parts, false);
    goesOn("takes", parts, false);
    goesOn("wrong", parts, false);
    goesOn("refuses", "if ; ", true);
    goesOn("learnt 1", joins + "if ; ", true);
    goesOn("learnt [ 1 ]", joins + "if ; ", true);
    goesOn("learnt [ 1", joins + "] ", false);
    goesOn("learnt [", parts, false);
    for (String join : joins.split(" ")) {
      goesOn("learnt 1 " + join, parts, false);
      goesOn("refuses if 1 " + join, parts, false);
      goesOn("refuses if 1 = 1 " + join, parts, false);
    }
    for (String begun : new String[] {"if", "if not", "if not not", "if (", "if 1 = 1 and",
        "if 1 = 1 or", "if 1 = 1 and not"}) {
      goesOn("refuses " + begun, parts + "not ( ", false);
      goesOn("learnt 1 " + begun, parts + "not ( ", false);
    }
    goesOn("refuses if 1", joins + "< > = ", false);
    goesOn("refuses if ( 1", joins + "< > = ", false);
    goesOn("refuses if [ 1", joins + "] ", false);
    goesOn("refuses if [ 1 ]", joins + "< > = ", false);
    for (String sign : new String[] {"<", ">", "="}) {
      goesOn("refuses if 1 " + sign, parts, false);
      goesOn("refuses if 1 " + sign + " 1", joins + "and or ; ", true);
      goesOn("refuses if ( 1 " + sign + " 1", joins + "and or ) ", false);
      goesOn("refuses if ( 1 " + sign + " 1 )", "and or ; ", true);
      goesOn("refuses if not ( 1 " + sign + " 1 )", "and or ; ", true);
    }
  }

  /** Behind "begun" the TOKENS "good" go on, no others; "ends": it can end there. */
  private static void goesOn(String begun, String good, boolean ends) {
    String all = "learnt takes wrong refuses if or and not 0 7 1000 1001 knows has tell learn art "
        + "day teller learner once ; ( ) [ ] < > = + - * / ? & Knows know ";
    fault(begun, ends ? NONE : begun.length());
    for (String token : all.split(" ")) {
      String text = begun + " " + token;
      HandedOn x = new HandedOn();
      Due.law(x, text);
      boolean goes = (" " + good).contains(" " + token + " ");
      DUE.is("FAULT at the last TOKEN of " + text, x.fault() == begun.length() + 1 ? 1 : 0,
          goes ? 0 : 1);
    }
  }

  private static void longestRows() {
    DUE.sentence("II: TOKENS: longest rows");
    fault("learnt" + "knows", 0);
    fault("learnt knows" + "has", 7);
    fault("learnt tell" + "er", NONE);
    fault("learnt learn" + "er", NONE);
    fault("learn 1", 0);
    fault("learnt learnt", 7);
    fault("learntt 1", 0);
    fault("refuses iff 1=1", 8);
    fault("refuses if note=1", 11);
    fault("refuses if not1=1", NONE);
    fault("refuses if 1=1and2=2or3=3", NONE);
    fault("refuses if 1=1andd 2=2", 14);
    fault("a".repeat(400), 0);
    fault("refuses " + "z".repeat(392), 8);
  }

  private static void clauses() {
    DUE.sentence("II: CLAUSE {\";\" CLAUSE}, 12 at most (FAULT at the 13th's first TOKEN)");
    for (int n = 1; n <= 12; n++) {
      fault("refuses" + ";refuses".repeat(n - 1), NONE);
      fault("refuses;" + "refuses;".repeat(n - 1), 8 * n);
    }
    String twelve = "learnt 1" + ";takes 2".repeat(11);
    fault(twelve, NONE);
    fault(twelve + ";takes 2", twelve.length() + 1);
    fault(twelve + ";  refuses", twelve.length() + 3);
    fault(twelve + ";?", twelve.length() + 1);
    fault(twelve + ";;", twelve.length() + 1);
    fault(twelve + ";", twelve.length() + 1);
    fault(twelve + ";   ", twelve.length() + 4);
    fault(twelve + "?", twelve.length());
    fault(twelve + " if 1=1", NONE);
    HandedOn x = Due.people(4, 4);
    x.art(1, 1);
    Due.law(x, "learnt 1" + ";learnt 2".repeat(10) + ";learnt 8");
    x.force(0);
    DUE.is("the twelfth is asked", x.handed(0, 1, 0, 0), 8);
  }

  private static void numbers() {
    DUE.sentence("II: NUMBER (to 1,000)");
    fault("learnt 999", NONE);
    fault("learnt 1000", NONE);
    fault("learnt 1001", 7);
    fault("learnt 1002", 7);
    fault("learnt 9999", 7);
    fault("learnt 10000", 7);
    fault("learnt 01000", NONE);
    fault("learnt 01001", 7);
    fault("learnt 2147483647", 7);
    fault("learnt 2147483648", 7);
    fault("learnt 4294967297", 7);
    fault("learnt 9223372036854775808", 7);
    fault("learnt 18446744073709551616", 7);
    fault("learnt " + "0".repeat(393), NONE);
    fault("learnt " + "0".repeat(389) + "1000", NONE);
    fault("learnt " + "0".repeat(389) + "1001", 7);
    fault("learnt 1+1001", 9);
    fault("learnt 1 if 1001=1", 12);
    fault("learnt 1 if 1=1001", 14);
    fault("learnt [1001]", 8);
  }

  private static void parts() {
    DUE.sentence("II: 50 PARTS that are NUMBERS and words (FAULT at the 51st) at most");
    fault("learnt 1" + "+1".repeat(49), NONE);
    fault("learnt 1" + "+1".repeat(50), 8 + 2 * 50 - 1);
    fault("learnt 1" + "+ 1".repeat(49) + "+ 1001", 8 + 3 * 49 + 2);
    fault("learnt 1" + "+1".repeat(49) + "+?", 8 + 2 * 49 + 1);
    fault("learnt 1" + "+1".repeat(49) + "+[1", 8 + 2 * 49 + 2);
    fault("learnt 1" + "+1".repeat(49) + " if", 8 + 2 * 49 + 3);
    fault("learnt 1" + "+1".repeat(49) + " if 1=1", 8 + 2 * 49 + 4);
    fault("learnt 1" + "+1".repeat(47) + " if 1=1", NONE);
    fault("learnt 1" + "+1".repeat(48) + " if 1=1", 8 + 2 * 48 + 6);
    fault("learnt 1" + "+1".repeat(49) + ";refuses", NONE);
    fault("learnt 1" + "+1".repeat(49) + ";refuses if 1=1", 8 + 2 * 49 + 12);
    fault("learnt [1]" + "+[1]".repeat(49), NONE);
    fault("learnt [1]" + "+[1]".repeat(50), 10 + 4 * 49 + 2);
    fault("refuses if 1=1" + " and 1=1".repeat(24), NONE);
    fault("refuses if 1=1" + " and 1=1".repeat(25), 14 + 8 * 24 + 5);
    String five = "takes 1+1+1+1+1";
    fault(five + (";" + five).repeat(9), NONE);
    fault(five + (";" + five).repeat(9) + ";takes 1", 16 * 10 + 6);
    HandedOn x = Due.people(4, 4);
    x.art(1, 1);
    Due.law(x, "wrong 1" + "+2".repeat(49));
    x.force(0);
    DUE.is("all fifty are asked", x.handed(0, 1, 0, 3), 99);
  }

  private static void partsOfEachKind() {
    DUE.sentence("II: PARTS: NUMBER, \"knows\" .. \"once\"");
    String[] words = {"knows", "has", "tell", "learn", "art", "day", "teller", "learner", "once"};
    for (String word : words) {
      String many = "takes " + word + ("+" + word).repeat(42 / word.length() - 1);
      fault(many, NONE);
      fault("takes " + word, NONE);
      fault("takes 1" + "+1".repeat(48) + "+" + word, NONE);
      fault("takes 1" + "+1".repeat(49) + "+" + word, 7 + 2 * 49 + 1);
      fault("takes " + word + "s", 6);
    }
  }

  private static void brackets() {
    DUE.sentence("II: 8 brackets of both kinds within one another (FAULT at the 9th)");
    for (int sums = 0; sums <= 9; sums++) {
      for (int tests = 0; tests <= 9; tests++) {
        String open = "(".repeat(tests) + "[".repeat(sums);
        String text = "refuses if " + open + "1" + "]".repeat(sums) + "=1" + ")".repeat(tests);
        fault(text, sums + tests <= 8 ? NONE : 11 + 8);
        fault("refuses if " + open, 11 + Math.min(8, sums + tests));
      }
    }
    fault("learnt " + "[".repeat(8) + "1" + "]".repeat(8), NONE);
    fault("learnt " + "[".repeat(9) + "1" + "]".repeat(9), 15);
    fault("learnt " + "[ ".repeat(9) + "1", 7 + 2 * 8);
  }

  private static void bracketsSideBySide() {
    DUE.sentence("II: 8 brackets within one another, those that are closed do not count");
    String eight = "[".repeat(8) + "1" + "]".repeat(8);
    fault("learnt " + eight + "+" + eight, NONE);
    fault("learnt " + eight + ";takes " + eight, NONE);
    fault("learnt " + eight + "+" + "[".repeat(9), 7 + 17 + 1 + 8);
    String test = "(".repeat(8) + "1=1" + ")".repeat(8);
    fault("refuses if " + test + " and " + test, NONE);
    fault("refuses if " + test + " or (" + test + ")", 11 + 19 + 4 + 8);
    fault("learnt " + eight + " if " + test, NONE);
  }

  private static void eachTextAnew() {
    DUE.sentence("II: 12 CLAUSES, 50 PARTS, 8 brackets of a TEXT, whatever was read ahead of it");
    String[] good = {"learnt 1" + "+1".repeat(49), "learnt " + "[".repeat(8) + "1" + "]".repeat(8),
        "refuses" + ";refuses".repeat(11), "refuses if " + "(".repeat(8) + "1=1" + ")".repeat(8)};
    String[] bad = {"learnt 1" + "+1".repeat(50), "learnt " + "[".repeat(9), "refuses if ((((((1=1",
        "refuses" + ";refuses".repeat(12), "refuses if 1=1=1", "learnt 1001", ""};
    for (String first : bad) {
      for (String second : good) {
        HandedOn x = new HandedOn();
        DUE.is("law, a bad one", Due.law(x, first), -6);
        DUE.is("law, a bad one again", Due.law(x, first), -6);
        DUE.is("law, a good one", Due.law(x, second), 0);
        DUE.is("law, a good one again", Due.law(x, second), 1);
        DUE.is("law, a bad one still", Due.law(x, first), -6);
      }
    }
  }

  private static void faultAtTheEnd() {
    DUE.sentence("II: FAULT: the end's: the TEXT's length; 13: blanks alone: FAULT at the end");
    for (int n = 0; n <= 400; n += n < 20 ? 1 : 20) {
      fault(" ".repeat(n), n);
    }
    String[] begun = {"learnt", "takes 1+", "wrong [1", "refuses if", "refuses if 1",
        "refuses if 1=", "refuses if not", "refuses if (1=1", "refuses if 1=1 and",
        "refuses if 1=1 or", "refuses;"};
    for (String text : begun) {
      fault(text, text.length());
      fault(text + " ", text.length() + 1);
      fault(text + "     ", text.length() + 5);
      String long400 = text + " ".repeat(400 - text.length());
      fault(long400, 400);
    }
    for (String head : HEADS) {
      boolean alone = head.equals("refuses");
      fault(head, alone ? NONE : head.length());
      fault(head + " 1", alone ? head.length() + 1 : NONE);
    }
  }

  private static void faultOfTheLatest() {
    DUE.sentence("14: FAULT of the latest law() that read a TEXT: its place; NONE without");
    HandedOn x = new HandedOn();
    DUE.is("ahead of any", x.fault(), NONE);
    Due.law(x, "refuses");
    DUE.is("behind a good one", x.fault(), NONE);
    Due.law(x, "learnt 1 ?");
    DUE.is("behind a bad one", x.fault(), 9);
    DUE.is("asked again", x.fault(), 9);
    DUE.refused(x, "law of an empty TAPE", x.law(), -6);
    DUE.is("behind an empty one", x.fault(), 0);
    Due.law(x, "learnt 1 ?");
    for (int i = 1; i < 6; i++) {
      Due.law(x, "refuses");
      DUE.is("behind a good one", x.fault(), NONE);
    }
    DUE.refused(x, "law without room", Due.law(x, "?"), -5);
    DUE.is("behind one that was not read", x.fault(), NONE);
    HandedOn y = new HandedOn();
    y.image(0);
    for (int i = 0; i < 6; i++) {
      Due.law(y, "refuses");
    }
    y.image(1);
    y.back(0);
    Due.law(y, "refuses ?");
    y.back(1);
    DUE.refused(y, "law without room", Due.law(y, "refuses"), -5);
    DUE.is("behind one that was not read", y.fault(), 8);
  }
}
