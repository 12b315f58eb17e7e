import java.lang.reflect.InvocationTargetException;
import java.lang.reflect.Method;
import java.lang.reflect.Modifier;
import java.util.ArrayList;
import java.util.HashMap;
import java.util.List;
import java.util.Map;
import java.util.Random;

/** Runs of calls made by chance (always the same ones), on HandedOn and on the plain model. */
public final class AgainstPlainModelTest {
  // An object is used for 512 calls at most, and a TEXT is fed, read and forced by 25.
  private static final int CALLS = 512 - 25;
  private static final Map<String, Method> OURS = new HashMap<>();
  private static final Map<String, Method> PLAIN = new HashMap<>();

  // Each call as often as it stands here.
  private static final String[] NAMES = ("one one put put put meet meet meet art rule rule rule "
      + "know know know know of feed end row slack law fault force force handed handed handed "
      + "handed show show show show show show wrong wrong clear behind behind behind has has "
      + "spent why why why "
      + "judge judge soonest first first fewest fewest without left start best ring "
      + "order talk talk heard talks week drawn drawn image back count status text text text alike "
      + "well").split(" ");

  private final Random random;
  private final TextMaker texts;
  private final HandedOn x = new HandedOn();
  private final PlainModel plain = new PlainModel();
  private final List<String> told = new ArrayList<>();
  private int people;
  private int arts;

  private AgainstPlainModelTest(long seed) {
    random = new Random(seed);
    texts = new TextMaker(random);
  }

  public static void main(String[] args) throws Exception {
    int runs = args.length > 0 ? Integer.parseInt(args[0]) : 250;
    long from = args.length > 1 ? Long.parseLong(args[1]) : 1;
    collect(HandedOn.class, OURS);
    collect(PlainModel.class, PLAIN);
    for (long seed = from; seed < from + runs; seed++) {
      if (!new AgainstPlainModelTest(seed).run()) {
        System.exit(1);
      }
    }
    System.out.println("AgainstPlainModelTest: " + runs + " runs, all answers are as due");
  }

  private static void collect(Class<?> c, Map<String, Method> into) {
    for (Method m : c.getDeclaredMethods()) {
      if (Modifier.isPublic(m.getModifiers())) {
        into.put(m.getName(), m);
      }
    }
  }

  private boolean run() throws Exception {
    int style = random.nextInt(4);
    if (style > 0 && !open()) {
      return false;
    }
    while (told.size() < CALLS) {
      String name = NAMES[random.nextInt(NAMES.length)];
      if (!(name.equals("text") ? feedText() : call(name, arguments(name)))) {
        return false;
      }
    }
    return true;
  }

  /** Some PEOPLE, ARTS and who KNOWS them, so that the calls behind have something to do. */
  private boolean open() throws Exception {
    boolean good = true;
    int n = 1 + random.nextInt(8);
    for (int i = 0; i < n; i++) {
      good &= call("one", random.nextInt(10), random.nextInt(10), random.nextInt(13));
    }
    int m = 1 + random.nextInt(5);
    for (int i = 0; i < m; i++) {
      good &= call("art", 1 + random.nextInt(6), 1 + random.nextInt(3));
      good &= call("know", random.nextInt(n), i, random.nextInt(10));
      good &= call("know", random.nextInt(n), i, random.nextInt(10));
    }
    for (int i = 0; i < n && random.nextBoolean(); i++) {
      good &= call("put", i, 3, random.nextInt(1 << 30) & random.nextInt(1 << 30));
      good &= call("meet", random.nextInt(n), i, 0);
    }
    return good;
  }

  private boolean feedText() throws Exception {
    String text = texts.make();
    boolean good = call("end", 0);
    for (int at = 0; good && at < text.length(); at += 20) {
      int[] five = new int[5];
      for (int i = 0; i < 20; i++) {
        int sign = at + i < text.length() ? text.charAt(at + i) : random.nextInt(256);
        five[i / 4] = five[i / 4] << 8 | sign;
      }
      good = call("feed", five);
    }
    good = good && call("end", text.length());
    return good && call("law") && call("fault") && call("force", random.nextInt(7) - 1);
  }

  private boolean call(String name, int... a) throws Exception {
    Object[] boxed = new Object[a.length];
    StringBuilder b = new StringBuilder(name).append("(");
    for (int i = 0; i < a.length; i++) {
      boxed[i] = a[i];
      b.append(i > 0 ? ", " : "").append(a[i]);
    }
    int due = (Integer) PLAIN.get(name).invoke(plain, boxed);
    b.append(") due ").append(due);
    told.add(b.toString());
    int got;
    try {
      got = (Integer) OURS.get(name).invoke(x, boxed);
    } catch (InvocationTargetException e) {
      e.getCause().printStackTrace(System.out);
      got = Integer.MIN_VALUE;
    }
    people = plain.count(0);
    arts = plain.count(1);
    if (got != due) {
      for (String line : told) {
        System.out.println(line);
      }
      System.out.println("but answered " + got);
    }
    return got == due;
  }

  private int near(int from, int to) {
    int way = random.nextInt(60);
    if (way == 0) {
      return random.nextInt();
    }
    if (way == 1) {
      return from - 1;
    }
    return way == 2 ? to + 1 : from + random.nextInt(to - from + 1);
  }

  private int person() {
    return near(0, Math.max(0, people - 1));
  }

  private int artNumber() {
    return near(0, Math.max(0, arts - 1));
  }

  private int bits(int n) {
    int way = random.nextInt(3);
    int all = (1 << n) - 1;
    if (way == 0 || n == 0) {
      return near(0, all);
    }
    return 1 << random.nextInt(n) | (way == 1 ? 0 : 1 << random.nextInt(n));
  }

  private int[] arguments(String name) {
    switch (name) {
      case "one":
        return new int[] {near(0, 9), near(0, 9), near(0, 12)};
      case "put":
        return put();
      case "meet":
        return new int[] {person(), person(), near(0, 1)};
      case "art":
        return new int[] {near(1, 6), near(1, 3)};
      case "rule":
        return rule();
      case "know":
        return new int[] {person(), artNumber(), near(0, 9)};
      case "of":
        return new int[] {person(), near(0, 9)};
      case "feed":
        return new int[] {small(), small(), small(), small(), small()};
      case "end":
        return new int[] {near(0, Math.max(8, plain.count(4)))};
      case "row":
      case "soonest":
      case "left":
      case "best":
        return new int[] {artNumber()};
      case "force":
        return new int[] {near(-1, 5)};
      case "handed":
        return new int[] {person(), person(), artNumber(), near(0, 3)};
      case "show":
        return new int[] {near(0, random.nextInt(3) == 0 ? 29 : 5), person(), artNumber(),
            bits(people)};
      case "wrong":
        return new int[] {near(0, Math.max(0, plain.count(3) - 1)), near(0, 1)};
      case "why":
        return new int[] {near(0, Math.max(0, plain.count(3) - 1))};
      default:
        return more(name);
    }
  }

  private int[] more(String name) {
    switch (name) {
      case "behind":
      case "has":
        return new int[] {near(0, random.nextBoolean() ? 29 : 5), person(), artNumber()};
      case "spent":
        return new int[] {near(0, random.nextBoolean() ? 29 : 5), person()};
      case "judge":
        return new int[] {near(0, 4)};
      case "first":
        return new int[] {artNumber(), near(-1, random.nextBoolean() ? 29 : 3)};
      case "fewest":
        return new int[] {artNumber(), near(0, 1)};
      case "without":
      case "start":
        return new int[] {artNumber(), person()};
      case "alike":
        return new int[] {near(1, 7), near(1, 3), near(1, 9), near(1, 9)};
      case "well":
        return new int[] {near(1, 6), near(1, 3), near(1, 9), near(0, 12)};
      case "ring":
        return new int[] {person(), artNumber()};
      case "order":
        return new int[] {near(-1, 4)};
      case "talk":
        return new int[] {person(), person()};
      case "heard":
        return new int[] {near(-1, 7)};
      case "talks":
        return new int[] {near(1, 12)};
      case "week":
        return new int[] {artNumber(), near(0, 1000000)};
      case "drawn":
        return random.nextInt(4) == 0
            ? new int[] {near(0, 1), -1} : new int[] {near(0, 6), person()};
      case "image":
      case "back":
        return new int[] {near(0, 1)};
      case "count":
        return new int[] {near(0, 10)};
      default:
        return new int[0];
    }
  }

  private int small() {
    int four = 0;
    for (int i = 0; i < 4; i++) {
      four = four << 8 | (random.nextInt(5) == 0 ? random.nextInt(256) : random.nextInt(11));
    }
    return four;
  }

  private int[] put() {
    int what = near(0, 3);
    int all = (1 << 30) - 1;
    int value = what == 3 ? near(0, all) & near(-1, all) : near(0, what == 2 ? 12 : 9);
    return new int[] {person(), what, value};
  }

  private int[] rule() {
    int what = near(0, 3);
    int value = what == 3 ? bits(arts) & bits(arts) : near(1, what == 0 ? 6 : what == 1 ? 3 : 9);
    return new int[] {artNumber(), what, value};
  }
}
