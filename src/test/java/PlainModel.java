import java.util.ArrayDeque;
import java.util.ArrayList;
import java.util.Arrays;
import java.util.HashMap;
import java.util.HashSet;
import java.util.List;
import java.util.Map;
import java.util.Set;
import java.util.TreeSet;

/**
 * The document once more, in the plainest way and without a thought of speed: nothing is kept that
 * can be worked out, all ways are really tried. HandedOn is compared with it.
 */
public final class PlainModel {
  static final int NONE = -1;

  static final class One {
    int learn;
    int tell;
    int hours;
    int away;
    Set<Integer> apart = new HashSet<>();
    Set<Integer> heard = new TreeSet<>();
    int[] knows = new int[5];

    One copy() {
      One c = new One();
      c.learn = learn;
      c.tell = tell;
      c.hours = hours;
      c.away = away;
      c.apart = new HashSet<>(apart);
      c.heard = new TreeSet<>(heard);
      c.knows = knows.clone();
      return c;
    }
  }

  static final class State {
    List<One> people = new ArrayList<>();
    List<int[]> arts = new ArrayList<>();
    List<List<Clause>> laws = new ArrayList<>();
    List<int[]> showings = new ArrayList<>();
    int force = NONE;
    int talks;

    State copy() {
      State c = new State();
      for (One o : people) {
        c.people.add(o.copy());
      }
      for (int[] a : arts) {
        c.arts.add(a.clone());
      }
      c.laws.addAll(laws);
      for (int[] s : showings) {
        c.showings.add(s.clone());
      }
      c.force = force;
      c.talks = talks;
      return c;
    }
  }

  static final class Fault extends RuntimeException {
    private static final long serialVersionUID = 1L;
    final int place;

    Fault(int place) {
      this.place = place;
    }
  }

  static final class Broken extends RuntimeException {
    private static final long serialVersionUID = 1L;
  }

  /** A tree: an operator with its parts, a number or a word. */
  static final class Tree {
    final String op;
    final Tree left;
    final Tree right;

    Tree(String op, Tree left, Tree right) {
      this.op = op;
      this.left = left;
      this.right = right;
    }
  }

  static final class Clause {
    String head;
    Tree sum;
    Tree test;
  }

  State s = new State();
  final State[] images = new State[2];
  final List<Integer> tape = new ArrayList<>();
  int fault = NONE;
  int slack;
  int status;
  final int[] refused = new int[7];
  int[][] week;
  int weekSpoilt;

  private int no(int by) {
    status = by;
    refused[-by]++;
    return by;
  }

  private int yes(int answer) {
    status = 0;
    return answer;
  }

  private boolean person(int one) {
    return one >= 0 && one < s.people.size();
  }

  private boolean isArt(int art) {
    return art >= 0 && art < s.arts.size();
  }

  private boolean meets(int a, int b) {
    return a != b && !s.people.get(a).apart.contains(b);
  }

  private static boolean in(int v, int low, int high) {
    return low <= v && v <= high;
  }

  public int one(int learn, int tell, int hours) {
    if (!in(learn, 0, 9) || !in(tell, 0, 9) || !in(hours, 0, 12)) {
      return no(-1);
    }
    if (s.people.size() == 8) {
      return no(-5);
    }
    One o = new One();
    o.learn = learn;
    o.tell = tell;
    o.hours = hours;
    o.heard.add(s.people.size());
    s.people.add(o);
    return yes(s.people.size() - 1);
  }

  public int put(int one, int what, int value) {
    int high = what == 0 || what == 1 ? 9 : what == 2 ? 12 : (1 << 30) - 1;
    if (!in(what, 0, 3) || !in(value, 0, high)) {
      return no(-1);
    }
    if (!person(one)) {
      return no(-2);
    }
    int was = of(one, what);
    One o = s.people.get(one);
    if (what == 0) {
      o.learn = value;
    } else if (what == 1) {
      o.tell = value;
    } else if (what == 2) {
      o.hours = value;
    } else {
      o.away = value;
    }
    return yes(was);
  }

  public int meet(int one, int other, int meet) {
    if (!in(meet, 0, 1)) {
      return no(-1);
    }
    if (!person(one) || !person(other)) {
      return no(-2);
    }
    if (one == other) {
      return no(-3);
    }
    int was = meets(one, other) ? 1 : 0;
    if (meet == 1) {
      s.people.get(one).apart.remove(other);
      s.people.get(other).apart.remove(one);
    } else {
      s.people.get(one).apart.add(other);
      s.people.get(other).apart.add(one);
    }
    return yes(was);
  }

  public int art(int takes, int once) {
    if (!in(takes, 1, 6) || !in(once, 1, 3)) {
      return no(-1);
    }
    if (s.arts.size() == 5) {
      return no(-5);
    }
    s.arts.add(new int[] {takes, once, 1, 0});
    return yes(s.arts.size() - 1);
  }

  public int rule(int art, int what, int value) {
    boolean can;
    if (what == 0) {
      can = in(value, 1, 6);
    } else if (what == 1) {
      can = in(value, 1, 3);
    } else if (what == 2) {
      can = in(value, 1, 9);
    } else if (what == 3) {
      can = value >= 0;
      for (int b = 0; b < 31; b++) {
        if ((value >> b & 1) == 1 && (!isArt(b) || b == art)) {
          can = false;
        }
      }
    } else {
      can = false;
    }
    if (!can) {
      return no(-1);
    }
    if (!isArt(art)) {
      return no(-2);
    }
    int was = s.arts.get(art)[what];
    s.arts.get(art)[what] = value;
    return yes(was);
  }

  public int know(int one, int art, int level) {
    if (!in(level, 0, 9)) {
      return no(-1);
    }
    if (!person(one) || !isArt(art)) {
      return no(-2);
    }
    int was = s.people.get(one).knows[art];
    s.people.get(one).knows[art] = level;
    return yes(was);
  }

  public int of(int one, int what) {
    if (!person(one) || !in(what, 0, 9)) {
      return NONE;
    }
    One o = s.people.get(one);
    switch (what) {
      case 0:
        return o.learn;
      case 1:
        return o.tell;
      case 2:
        return o.hours;
      case 3:
        return o.away;
      case 4:
        int bits = 0;
        for (int i = 0; i < s.people.size(); i++) {
          bits |= meets(one, i) ? 1 << i : 0;
        }
        return bits;
      default:
        return isArt(what - 5) ? o.knows[what - 5] : 0;
    }
  }

  public int feed(int a, int b, int c, int d, int e) {
    if (tape.size() > 380) {
      return NONE;
    }
    for (int v : new int[] {a, b, c, d, e}) {
      for (byte x : java.nio.ByteBuffer.allocate(4).putInt(v).array()) {
        tape.add(x & 255);
      }
    }
    return tape.size();
  }

  public int end(int n) {
    if (!in(n, 0, tape.size())) {
      return NONE;
    }
    while (tape.size() > n) {
      tape.remove(tape.size() - 1);
    }
    return n;
  }

  public int row(int art) {
    if (!isArt(art)) {
      return no(-2);
    }
    if (tape.isEmpty()) {
      return no(-6);
    }
    int came = 0;
    slack = 0;
    for (int i = 0; i < tape.size(); i++) {
      if (tape.get(i) > 9 || !person(i)) {
        slack++;
      } else {
        s.people.get(i).knows[art] = tape.get(i);
        came++;
      }
    }
    tape.clear();
    return yes(came);
  }

  public int slack() {
    return slack;
  }

  // The LAW's language.

  private String text;
  private final List<String> tokens = new ArrayList<>();
  private final List<Integer> places = new ArrayList<>();
  private int at;
  private int partCount;
  private int deep;

  private void cut() {
    tokens.clear();
    places.clear();
    java.util.regex.Matcher m =
        java.util.regex.Pattern.compile("[a-z]+|[0-9]+|[^ ]", java.util.regex.Pattern.DOTALL)
            .matcher(text);
    while (m.find()) {
      tokens.add(m.group());
      places.add(m.start());
    }
    tokens.add("");
    places.add(text.length());
    at = 0;
    partCount = 0;
    deep = 0;
  }

  private String token() {
    return tokens.get(at);
  }

  private Fault fault(int place) {
    return new Fault(places.get(place));
  }

  private void expect(String t) {
    if (!token().equals(t)) {
      throw fault(at);
    }
    at++;
  }

  private List<Clause> parse() {
    List<Clause> clauses = new ArrayList<>();
    clauses.add(parseClause());
    while (token().equals(";")) {
      at++;
      if (clauses.size() == 12) {
        throw fault(at);
      }
      clauses.add(parseClause());
    }
    expect("");
    return clauses;
  }

  private Clause parseClause() {
    Clause c = new Clause();
    c.head = token();
    if (!Arrays.asList("learnt", "takes", "wrong", "refuses").contains(c.head)) {
      throw fault(at);
    }
    at++;
    c.sum = c.head.equals("refuses") ? new Tree("1", null, null) : parseSum();
    if (token().equals("if")) {
      at++;
      c.test = parseTest();
    }
    return c;
  }

  private Tree parseTest() {
    Tree t = parseBoth();
    while (token().equals("or")) {
      at++;
      t = new Tree("or", t, parseBoth());
    }
    return t;
  }

  private Tree parseBoth() {
    Tree t = parsePlain();
    while (token().equals("and")) {
      at++;
      t = new Tree("and", t, parsePlain());
    }
    return t;
  }

  private Tree parsePlain() {
    if (token().equals("not")) {
      at++;
      return new Tree("not", parsePlain(), null);
    }
    if (token().equals("(")) {
      open();
      Tree t = parseTest();
      expect(")");
      deep--;
      return t;
    }
    Tree left = parseSum();
    String sign = token();
    if (!Arrays.asList("<", ">", "=").contains(sign)) {
      throw fault(at);
    }
    at++;
    return new Tree(sign, left, parseSum());
  }

  private void open() {
    deep++;
    if (deep > 8) {
      throw fault(at);
    }
    at++;
  }

  private Tree parseSum() {
    Tree t = parseTerm();
    while (token().equals("+") || token().equals("-")) {
      String sign = token();
      at++;
      t = new Tree(sign, t, parseTerm());
    }
    return t;
  }

  private Tree parseTerm() {
    Tree t = parsePart();
    while (token().equals("*") || token().equals("/")) {
      String sign = token();
      at++;
      t = new Tree(sign, t, parsePart());
    }
    return t;
  }

  private Tree parsePart() {
    String t = token();
    if (t.equals("[")) {
      open();
      Tree sum = parseSum();
      expect("]");
      deep--;
      return sum;
    }
    boolean number = !t.isEmpty() && Character.isDigit(t.charAt(0))
        && new java.math.BigInteger(t).compareTo(java.math.BigInteger.valueOf(1000)) <= 0;
    boolean word = Arrays.asList("knows", "has", "tell", "learn", "art", "day", "teller",
        "learner", "once").contains(t);
    if (!number && !word || ++partCount > 50) {
      throw fault(at);
    }
    at++;
    return new Tree(number ? "" + Integer.parseInt(t) : t, null, null);
  }

  public int law() {
    StringBuilder b = new StringBuilder();
    for (int x : tape) {
      b.append((char) x);
    }
    tape.clear();
    if (s.laws.size() == 6) {
      return no(-5);
    }
    text = b.toString();
    cut();
    try {
      s.laws.add(parse());
      fault = NONE;
      return yes(s.laws.size() - 1);
    } catch (Fault f) {
      fault = f.place;
      return no(-6);
    }
  }

  public int fault() {
    return fault;
  }

  public int force(int law) {
    if (!in(law, -1, s.laws.size() - 1)) {
      return no(-2);
    }
    int was = s.force;
    s.force = law;
    return yes(was);
  }

  private static long checked(long v) {
    if (Math.abs(v) > 1000000000L) {
      throw new Broken();
    }
    return v;
  }

  private long sum(Tree t, Map<String, Integer> ask) {
    if (t.left == null) {
      return Character.isDigit(t.op.charAt(0)) ? Long.parseLong(t.op) : ask.get(t.op);
    }
    long a = sum(t.left, ask);
    long b = sum(t.right, ask);
    switch (t.op) {
      case "+":
        return checked(a + b);
      case "-":
        return checked(a - b);
      case "*":
        return checked(a * b);
      default:
        if (b == 0) {
          throw new Broken();
        }
        return checked(a / b);
    }
  }

  private boolean so(Tree t, Map<String, Integer> ask) {
    switch (t.op) {
      case "or":
        return so(t.left, ask) || so(t.right, ask);
      case "and":
        return so(t.left, ask) && so(t.right, ask);
      case "not":
        return !so(t.left, ask);
      case "<":
        return sum(t.left, ask) < sum(t.right, ask);
      case ">":
        return sum(t.left, ask) > sum(t.right, ask);
      default:
        return sum(t.left, ask) == sum(t.right, ask);
    }
  }

  /** What a HEAD tells, or null. */
  private Long told(String head, Map<String, Integer> ask) {
    Long found = null;
    if (s.force == NONE) {
      return null;
    }
    for (Clause c : s.laws.get(s.force)) {
      if (c.head.equals(head)) {
        try {
          boolean holds = c.test == null || so(c.test, ask);
          long value = sum(c.sum, ask);
          if (holds) {
            found = value;
          }
        } catch (Broken b) {
          continue;
        }
      }
    }
    return found;
  }

  private Map<String, Integer> ask(int[] who, int[] levels, int art, int day, int once) {
    Map<String, Integer> m = new HashMap<>();
    m.put("teller", who[0]);
    m.put("learner", who[1]);
    m.put("knows", levels[0]);
    m.put("has", levels[1]);
    m.put("tell", s.people.get(who[0]).tell);
    m.put("learn", s.people.get(who[1]).learn);
    m.put("art", art);
    m.put("day", day);
    m.put("once", once);
    return m;
  }

  private static int near(long v, int low, int high) {
    return (int) (v < low ? low : v > high ? high : v);
  }

  private int handedBy(Map<String, Integer> ask) {
    Long t = told("learnt", ask);
    return t == null ? Math.max(0, ask.get("knows") - 1) : near(t, 0, 9);
  }

  private int takesBy(Map<String, Integer> ask, int art) {
    Long t = told("takes", ask);
    return t == null ? s.arts.get(art)[0] : near(t, 1, 12);
  }

  private int wrongBy(Map<String, Integer> ask) {
    Long t = told("wrong", ask);
    return t == null ? 0 : near(t, 0, 100);
  }

  public int handed(int teller, int learner, int art, int what) {
    if (!person(teller) || !person(learner) || !isArt(art) || teller == learner) {
      return NONE;
    }
    Map<String, Integer> ask = ask(new int[] {teller, learner},
        new int[] {s.people.get(teller).knows[art], s.people.get(learner).knows[art]}, art, 0, 1);
    switch (what) {
      case 0:
        return handedBy(ask);
      case 1:
        return takesBy(ask, art);
      case 2:
        return told("refuses", ask) == null ? 0 : 1;
      case 3:
        return wrongBy(ask);
      default:
        return NONE;
    }
  }

  // SHOWINGS: day, teller, art, learners, wrong.

  public int show(int day, int teller, int art, int learners) {
    if (!in(day, 0, 29) || learners < 0 || learners >= 1 << s.people.size()) {
      return no(-1);
    }
    if (!person(teller) || !isArt(art)) {
      return no(-2);
    }
    if (s.showings.size() == 60) {
      return no(-5);
    }
    s.showings.add(new int[] {day, teller, art, learners, 0});
    return yes(s.showings.size() - 1);
  }

  public int wrong(int showing, int wrong) {
    if (!in(wrong, 0, 1)) {
      return no(-1);
    }
    if (!in(showing, 0, s.showings.size() - 1)) {
      return no(-2);
    }
    int was = s.showings.get(showing)[4];
    s.showings.get(showing)[4] = wrong;
    return yes(was);
  }

  public int clear() {
    int n = s.showings.size();
    s.showings.clear();
    return n;
  }

  private int[][] lev;
  private boolean[][] bad;
  private int[][] used;
  private int[] reasons;

  private boolean away(int one, int day) {
    return (s.people.get(one).away >> day & 1) == 1;
  }

  private void run(int until) {
    int n = s.people.size();
    lev = new int[n][];
    bad = new boolean[n][5];
    used = new int[30][n];
    reasons = new int[s.showings.size()];
    for (int i = 0; i < n; i++) {
      lev[i] = s.people.get(i).knows.clone();
    }
    for (int day = 0; day <= until; day++) {
      int[][] next = new int[n][];
      boolean[][] nextBad = new boolean[n][];
      for (int i = 0; i < n; i++) {
        next[i] = lev[i].clone();
        nextBad[i] = bad[i].clone();
      }
      for (int i = 0; i < s.showings.size(); i++) {
        if (s.showings.get(i)[0] == day) {
          oneShowing(i, next, nextBad);
        }
      }
      lev = next;
      bad = nextBad;
    }
  }

  private void oneShowing(int i, int[][] next, boolean[][] nextBad) {
    int[] w = s.showings.get(i);
    int day = w[0];
    int teller = w[1];
    int art = w[2];
    List<Integer> learners = new ArrayList<>();
    for (int p = 0; p < s.people.size(); p++) {
      if ((w[3] >> p & 1) == 1) {
        learners.add(p);
      }
    }
    List<Map<String, Integer>> asks = new ArrayList<>();
    for (int p : learners) {
      asks.add(ask(new int[] {teller, p}, new int[] {lev[teller][art], lev[p][art]}, art, day,
          learners.size()));
    }
    int takes = learners.isEmpty() ? s.arts.get(art)[0] : takesBy(asks.get(0), art);
    reasons[i] = reason(w, learners, asks, takes);
    if (reasons[i] != 0) {
      return;
    }
    used[day][teller] += takes;
    for (int j = 0; j < learners.size(); j++) {
      int p = learners.get(j);
      used[day][p] += takes;
      int h = handedBy(asks.get(j));
      if (h > next[p][art]) {
        next[p][art] = h;
        nextBad[p][art] = w[4] == 1 || bad[teller][art];
      }
    }
  }

  private int reason(int[] w, List<Integer> learners, List<Map<String, Integer>> asks, int takes) {
    int day = w[0];
    int teller = w[1];
    int[] art = s.arts.get(w[2]);
    if (lev[teller][w[2]] == 0) {
      return 1;
    }
    if (away(teller, day)) {
      return 2;
    }
    if (s.people.get(teller).hours - used[day][teller] < takes) {
      return 3;
    }
    if (learners.isEmpty() || learners.size() > art[1] || learners.contains(teller)) {
      return 4;
    }
    for (int p : learners) {
      if (away(p, day)) {
        return 5;
      }
    }
    for (int p : learners) {
      if (!meets(teller, p)) {
        return 6;
      }
    }
    for (int p : learners) {
      if (s.people.get(p).hours - used[day][p] < takes) {
        return 7;
      }
    }
    for (int p : learners) {
      for (int b = 0; b < s.arts.size(); b++) {
        if ((art[3] >> b & 1) == 1 && lev[p][b] < s.arts.get(b)[2]) {
          return 8;
        }
      }
    }
    for (Map<String, Integer> a : asks) {
      if (told("refuses", a) != null) {
        return 9;
      }
    }
    return 0;
  }

  public int behind(int day, int one, int art) {
    if (!in(day, 0, 29) || !person(one) || !isArt(art)) {
      return NONE;
    }
    run(day);
    return lev[one][art];
  }

  public int has(int day, int one, int art) {
    if (!in(day, 0, 29) || !person(one) || !isArt(art)) {
      return NONE;
    }
    run(day);
    return bad[one][art] ? 1 : 0;
  }

  public int spent(int day, int one) {
    if (!in(day, 0, 29) || !person(one)) {
      return NONE;
    }
    run(29);
    return used[day][one];
  }

  public int why(int showing) {
    if (!in(showing, 0, s.showings.size() - 1)) {
      return NONE;
    }
    run(29);
    return reasons[showing];
  }

  public int judge(int what) {
    run(29);
    int n = 0;
    switch (what) {
      case 0:
        for (int r : reasons) {
          n += r != 0 ? 1 : 0;
        }
        return n;
      case 1:
        for (int i = 0; i < reasons.length; i++) {
          if (reasons[i] != 0) {
            return i;
          }
        }
        return NONE;
      case 2:
        for (int[] d : used) {
          for (int h : d) {
            n += h;
          }
        }
        return n;
      case 3:
        for (int day = 0; day < 30; day++) {
          run(day);
          boolean all = true;
          for (int[] l : lev) {
            for (int a = 0; a < s.arts.size(); a++) {
              all &= l[a] >= s.arts.get(a)[2];
            }
          }
          if (all) {
            return day;
          }
        }
        return NONE;
      case 4:
        for (boolean[] b : bad) {
          for (boolean x : b) {
            n += x ? 1 : 0;
          }
        }
        return n;
      default:
        return NONE;
    }
  }

  // SOONEST and its like: every learner is given to each teller or to nobody.

  private int all() {
    return (1 << s.people.size()) - 1;
  }

  private int knowers(int art) {
    int set = 0;
    for (int i = 0; i < s.people.size(); i++) {
      set |= s.people.get(i).knows[art] > 0 ? 1 << i : 0;
    }
    return set;
  }

  private Set<Integer> nexts(int art, int who, int set, int day) {
    int takes = s.arts.get(art)[0];
    int[] free = new int[s.people.size()];
    for (int p = 0; p < free.length; p++) {
      boolean tells = (set >> p & 1) == 1 && !away(p, day);
      free[p] = tells ? s.people.get(p).hours / takes * s.arts.get(art)[1] : 0;
    }
    Set<Integer> found = new TreeSet<>();
    give(art, who, day, set, 0, free, set, found, new HashSet<>());
    return found;
  }

  private void give(int art, int who, int day, int set, int p, int[] free, int then,
      Set<Integer> found, Set<List<Integer>> been) {
    List<Integer> key = new ArrayList<>();
    key.add(p);
    key.add(then);
    for (int f : free) {
      key.add(f);
    }
    if (!been.add(key)) {
      return;
    }
    if (p == free.length) {
      found.add(then);
      return;
    }
    give(art, who, day, set, p + 1, free, then, found, been);
    boolean open = (who >> p & 1) == 1 && (set >> p & 1) == 0 && !away(p, day)
        && s.people.get(p).hours >= s.arts.get(art)[0];
    for (int t = 0; open && t < free.length; t++) {
      if (free[t] > 0 && meets(t, p)) {
        free[t]--;
        give(art, who, day, set, p + 1, free, then | 1 << p, found, been);
        free[t]++;
      }
    }
  }

  private int days(int art, int who, int set) {
    Set<Integer> now = new TreeSet<>();
    now.add(set);
    for (int day = 0; day <= 30; day++) {
      if (now.contains(who)) {
        return day;
      }
      if (day == 30) {
        break;
      }
      Set<Integer> next = new TreeSet<>();
      for (int x : now) {
        next.addAll(nexts(art, who, x, day));
      }
      now = next;
    }
    return NONE;
  }

  private boolean can(int art, int set, int day, int until, Map<Integer, Boolean> memo) {
    if (day == until) {
      return set == all();
    }
    int key = day * 256 + set;
    Boolean known = memo.get(key);
    if (known == null) {
      known = false;
      for (int x : nexts(art, all(), set, day)) {
        known |= can(art, x, day + 1, until, memo);
      }
      memo.put(key, known);
    }
    return known;
  }

  public int soonest(int art) {
    return isArt(art) ? days(art, all(), knowers(art)) : NONE;
  }

  public int first(int art, int day) {
    if (!isArt(art) || !in(day, -1, 29)) {
      return NONE;
    }
    int until = days(art, all(), knowers(art));
    if (until == NONE) {
      return NONE;
    }
    int set = knowers(art);
    Map<Integer, Boolean> memo = new HashMap<>();
    for (int d = 0; d <= day && d < until; d++) {
      for (int x : nexts(art, all(), set, d)) {
        if (can(art, x, d + 1, until, memo)) {
          set = x;
          break;
        }
      }
    }
    return day >= until ? all() : set;
  }

  private int showings(int art, int set) {
    Map<Integer, Integer> dist = new HashMap<>();
    ArrayDeque<Integer> queue = new ArrayDeque<>();
    dist.put(set, 0);
    queue.add(set);
    while (!queue.isEmpty()) {
      int x = queue.poll();
      for (int t = 0; t < s.people.size(); t++) {
        for (int y : shownBy(art, x, t)) {
          if (!dist.containsKey(y)) {
            dist.put(y, dist.get(x) + 1);
            queue.add(y);
          }
        }
      }
    }
    return dist.getOrDefault(all(), NONE);
  }

  private Set<Integer> shownBy(int art, int set, int teller) {
    Set<Integer> found = new TreeSet<>();
    if ((set >> teller & 1) == 1) {
      for (int t = 1; t <= all(); t++) {
        if (Integer.bitCount(t) <= s.arts.get(art)[1] && (t & ~of(teller, 4)) == 0) {
          found.add(set | t);
        }
      }
    }
    return found;
  }

  public int fewest(int art, int what) {
    if (!isArt(art) || !in(what, 0, 1)) {
      return NONE;
    }
    int set = knowers(art);
    int n = showings(art, set);
    if (what == 0 || n <= 0) {
      return what == 0 ? n : NONE;
    }
    for (int t = 0; t < s.people.size(); t++) {
      for (int y : shownBy(art, set, t)) {
        if (showings(art, y) == n - 1) {
          return t;
        }
      }
    }
    throw new IllegalStateException();
  }

  public int without(int art, int one) {
    if (!isArt(art) || !person(one)) {
      return NONE;
    }
    int who = all() & ~(1 << one);
    return days(art, who, knowers(art) & who);
  }

  private int lowestOf(List<Integer> days) {
    int found = NONE;
    for (int i = 0; i < days.size(); i++) {
      if (days.get(i) != NONE && (found == NONE || days.get(i) < days.get(found))) {
        found = i;
      }
    }
    return found;
  }

  public int left(int art) {
    List<Integer> days = new ArrayList<>();
    for (int i = 0; isArt(art) && i < s.people.size(); i++) {
      days.add(without(art, i));
    }
    return lowestOf(days);
  }

  public int start(int art, int one) {
    return isArt(art) && person(one) ? days(art, all(), 1 << one) : NONE;
  }

  public int best(int art) {
    List<Integer> days = new ArrayList<>();
    for (int i = 0; isArt(art) && i < s.people.size(); i++) {
      days.add(start(art, i));
    }
    return lowestOf(days);
  }

  // ALIKE: all ways, over the counts of each LEVEL.

  public int alike(int m, int k, int t, int w) {
    if (!in(m, 1, 12) || !in(k, 1, 3) || !in(t, 1, 9) || !in(w, 1, 9)) {
      return NONE;
    }
    List<Integer> counts = new ArrayList<>();
    for (int l = 0; l < 10; l++) {
      counts.add((l == t ? 1 : 0) + (l == 0 ? m - 1 : 0));
    }
    Set<List<Integer>> now = new HashSet<>();
    Set<List<Integer>> been = new HashSet<>();
    now.add(counts);
    for (int day = 0; !now.isEmpty(); day++) {
      Set<List<Integer>> next = new HashSet<>();
      for (List<Integer> c : now) {
        int below = 0;
        for (int l = 0; l < w; l++) {
          below += c.get(l);
        }
        if (below == 0) {
          return day;
        }
        if (been.add(c)) {
          spreadAlike(c, c, 9, k, w, next);
        }
      }
      now = next;
    }
    return NONE;
  }

  // Who has been given a LEVEL below w keeps it, so such ways need not be gone on with.
  private void spreadAlike(List<Integer> before, List<Integer> c, int level, int k, int w,
      Set<List<Integer>> found) {
    if (level < 2 || level - 1 < w) {
      found.add(c);
      return;
    }
    for (int shown = 0; shown <= k * before.get(level) && shown <= c.get(0); shown++) {
      List<Integer> then = new ArrayList<>(c);
      then.set(0, c.get(0) - shown);
      then.set(level - 1, c.get(level - 1) + shown);
      spreadAlike(before, then, level - 1, k, w, found);
    }
  }

  public int well(int m, int k, int t, int d) {
    if (!in(m, 1, 12) || !in(k, 1, 3) || !in(t, 1, 9) || !in(d, 0, 12)) {
      return NONE;
    }
    int found = 0;
    for (int w = 1; w <= 9; w++) {
      int days = alike(m, k, t, w);
      if (days != NONE && days <= d) {
        found = w;
      }
    }
    return found;
  }

  public int ring(int first, int art) {
    if (!person(first) || !isArt(art)) {
      return NONE;
    }
    int n = s.people.size();
    int level = s.people.get(first).knows[art];
    for (int i = 0; i < n && n > 1; i++) {
      int teller = (first + i) % n;
      int learner = (first + i + 1) % n;
      int own = s.people.get(learner).knows[art];
      int h = handedBy(ask(new int[] {teller, learner}, new int[] {level, own}, art, 0, 1));
      level = i == n - 1 ? h : Math.max(own, h);
    }
    return level;
  }

  public int order(int i) {
    List<Integer> order = new ArrayList<>();
    boolean more = true;
    while (more) {
      more = false;
      for (int a = 0; a < s.arts.size() && !more; a++) {
        boolean free = !order.contains(a);
        for (int b = 0; b < 5; b++) {
          free &= (s.arts.get(a)[3] >> b & 1) == 0 || order.contains(b);
        }
        if (free) {
          order.add(a);
          more = true;
        }
      }
    }
    return i == NONE ? order.size() : in(i, 0, order.size() - 1) ? order.get(i) : NONE;
  }

  public int talk(int one, int other) {
    if (!person(one) || !person(other)) {
      return no(-2);
    }
    if (!meets(one, other)) {
      return no(-3);
    }
    s.people.get(one).heard.addAll(s.people.get(other).heard);
    s.people.get(other).heard.addAll(s.people.get(one).heard);
    s.talks++;
    int n = 0;
    for (One o : s.people) {
      n += o.heard.size() == s.people.size() ? 1 : 0;
    }
    return yes(n);
  }

  public int heard(int one) {
    if (one == NONE) {
      return s.talks;
    }
    if (!person(one)) {
      return NONE;
    }
    int bits = 0;
    for (int x : s.people.get(one).heard) {
      bits |= 1 << x;
    }
    return bits;
  }

  public int talks(int n) {
    return !in(n, 1, 12) ? NONE : n == 1 ? 0 : n == 2 ? 1 : n == 3 ? 3 : 2 * n - 4;
  }

  private long draws;

  private int draw(int n) {
    draws = (draws * 1103 + 12345) % 1000003;
    return (int) (draws % n);
  }

  public int week(int art, int seed) {
    if (!in(seed, 0, 1000000)) {
      return no(-1);
    }
    if (!isArt(art)) {
      return no(-2);
    }
    draws = seed;
    weekSpoilt = 0;
    int n = s.people.size();
    week = new int[7][];
    int[] now = new int[n];
    for (int i = 0; i < n; i++) {
      now[i] = s.people.get(i).knows[art];
    }
    for (int day = 0; day < 7; day++) {
      int[] next = now.clone();
      Set<Integer> shown = new HashSet<>();
      for (int p = 0; p < n; p++) {
        if (now[p] == 0 || away(p, day)) {
          continue;
        }
        int q = draw(n);
        if (q == p || away(q, day) || !meets(p, q) || !shown.add(q)) {
          continue;
        }
        Map<String, Integer> ask = ask(new int[] {p, q}, new int[] {now[p], now[q]}, art, day, 1);
        int h = handedBy(ask);
        if (draw(100) < wrongBy(ask)) {
          weekSpoilt++;
          h = Math.max(0, h - 1);
        }
        next[q] = Math.max(next[q], h);
      }
      week[day] = next;
      now = next;
    }
    int k = 0;
    for (int l : now) {
      k += l > 0 ? 1 : 0;
    }
    return yes(k);
  }

  public int drawn(int day, int one) {
    if (week == null) {
      return NONE;
    }
    if (one == NONE) {
      return day == 0 ? weekSpoilt : NONE;
    }
    return in(day, 0, 6) && in(one, 0, week[day].length - 1) ? week[day][one] : NONE;
  }

  public int image(int k) {
    if (!in(k, 0, 1)) {
      return no(-1);
    }
    images[k] = s.copy();
    return yes(0);
  }

  public int back(int k) {
    if (!in(k, 0, 1)) {
      return no(-1);
    }
    if (images[k] == null) {
      return no(-2);
    }
    s = images[k].copy();
    return yes(0);
  }

  public int count(int what) {
    int[] all = {s.people.size(), s.arts.size(), s.laws.size(), s.showings.size(), tape.size(),
        refused[1], refused[2], refused[3], refused[5], refused[6], s.force};
    return in(what, 0, 10) ? all[what] : NONE;
  }

  public int status() {
    return status;
  }
}
