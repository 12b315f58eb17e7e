import java.util.Arrays;

/** Arts that are handed on from one to the other, each hand a little worse. */
public final class HandedOn {
  /** There is none. */
  public static final int NONE = -1;

  private static final int PEOPLE_MOST = 8;
  private static final int ARTS_MOST = 5;
  private static final int LAWS_MOST = 6;
  private static final int SHOWINGS_MOST = 60;
  private static final int TAPE_MOST = 400;
  private static final int FEED_BYTES = 20;
  private static final int IMAGES_MOST = 2;
  private static final int DAYS = 30;
  private static final int WEEK_DAYS = 7;
  private static final int LEVEL_MOST = 9;
  private static final int SETS = 256;
  private static final int CELLS = PEOPLE_MOST * ARTS_MOST;

  private static final int BAD_NUMBER = -1;
  private static final int NOT_THERE = -2;
  private static final int CANT_BE = -3;
  private static final int NO_ROOM = -5;
  private static final int BAD_TEXT = -6;

  private static final int LEARN_TRAIT = 0;
  private static final int TELL_TRAIT = 1;
  private static final int HOURS_TRAIT = 2;
  private static final int AWAY_TRAIT = 3;
  private static final int TRAITS = 4;
  private static final int[] TRAIT_MOST = {9, 9, 12, 0x3FFFFFFF};

  private static final int TAKES_RULE = 0;
  private static final int ONCE_RULE = 1;
  private static final int LEAST_RULE = 2;
  private static final int NEEDS_RULE = 3;
  private static final int RULES = 4;
  private static final int[] RULE_LEAST = {1, 1, 1, 0};
  private static final int[] RULE_MOST = {6, 3, 9, 31};

  // Kinds of TOKENS: the words first, by their places in WORDS, then the others.
  private static final String WORDS =
      "learnt takes wrong refuses if or and not knows has tell learn art day teller learner once ";
  private static final String SIGNS = ";()[]<>=+-*/";
  private static final int LEARNT = 0;
  private static final int TAKES = 1;
  private static final int WRONG = 2;
  private static final int REFUSES = 3;
  private static final int IF = 4;
  private static final int OR = 5;
  private static final int AND = 6;
  private static final int NOT = 7;
  private static final int KNOWS = 8;
  private static final int HAS = 9;
  private static final int TELL = 10;
  private static final int LEARN = 11;
  private static final int ART = 12;
  private static final int DAY = 13;
  private static final int TELLER = 14;
  private static final int LEARNER = 15;
  private static final int ONCE = 16;
  private static final int NUMBER = 17;
  private static final int SEMICOLON = 18;
  private static final int OPEN = 19;
  private static final int CLOSE = 20;
  private static final int OPEN_SUM = 21;
  private static final int CLOSE_SUM = 22;
  private static final int LESS = 23;
  private static final int MORE = 24;
  private static final int SAME = 25;
  private static final int PLUS = 26;
  private static final int MINUS = 27;
  private static final int TIMES = 28;
  private static final int OVER = 29;
  private static final int OTHER = 30;
  private static final int END = 31;

  private static final int KIND_BITS = 5;
  private static final int KIND_MASK = 31;
  private static final int ASKED = ONCE - KNOWS + 1;
  private static final int HEADS = 4;
  private static final int[] TOLD_LEAST = {0, 1, 0, 0};
  private static final int[] TOLD_MOST = {9, 12, 100, 1};
  private static final int CLAUSES_MOST = 12;
  private static final int PARTS_MOST = 50;
  private static final int BRACKETS_MOST = 8;
  private static final int NUMBER_MOST = 1000;
  private static final int BLANK = 32;
  // Each TOKEN leaves one step at most, a CLAUSE without "if" one more.
  private static final int CODE_MOST = TAPE_MOST + CLAUSES_MOST;
  // Each PART is pushed once at most, and a CLAUSE pushes two steps of its own at most.
  private static final int STACK_MOST = PARTS_MOST + 2;
  private static final long BROKEN_BEYOND = 1_000_000_000L;

  private static final int DRAW_TIMES = 1103;
  private static final int DRAW_MORE = 12345;
  private static final int DRAW_MODULO = 1_000_003;
  private static final int SEED_MOST = 1_000_000;

  private static final int ALIKE_MOST = 12;
  private static final int ALIKE_ONCE_MOST = 3;
  private static final int TALKERS_MOST = 12;

  private final World world = new World();
  private final World[] images = new World[IMAGES_MOST];
  private final Tape tape = new Tape();
  private final Reader reader = new Reader();
  private final Voice voice = new Voice();
  private final Plan plan = new Plan();
  private final Spread spread = new Spread();
  private final Week latest = new Week();
  private final int[] refusedBy = new int[5];
  private final int[] alikeOnes = new int[LEVEL_MOST + 1];
  private int changes = 0;
  private int latestStatus = 0;
  private int latestSlack = 0;
  private int latestFault = NONE;

  public HandedOn() {
  }

  public int one(int learn, int tell, int hours) {
    if (!traitCanBe(LEARN_TRAIT, learn) || !traitCanBe(TELL_TRAIT, tell)
        || !traitCanBe(HOURS_TRAIT, hours)) {
      return refuse(BAD_NUMBER);
    }
    if (world.people.number >= PEOPLE_MOST) {
      return refuse(NO_ROOM);
    }
    return accept(world.people.come(learn, tell, hours));
  }

  public int put(int one, int what, int value) {
    if (!traitCanBe(what, value)) {
      return refuse(BAD_NUMBER);
    }
    if (!world.people.holds(one)) {
      return refuse(NOT_THERE);
    }
    return accept(world.people.change(one, what, value));
  }

  public int meet(int one, int other, int meet) {
    if (meet != 0 && meet != 1) {
      return refuse(BAD_NUMBER);
    }
    if (!world.people.holds(one) || !world.people.holds(other)) {
      return refuse(NOT_THERE);
    }
    if (one == other) {
      return refuse(CANT_BE);
    }
    return accept(world.people.setMeeting(one, other, meet));
  }

  public int art(int takes, int once) {
    if (!ruleCanBe(TAKES_RULE, takes) || !ruleCanBe(ONCE_RULE, once)) {
      return refuse(BAD_NUMBER);
    }
    if (world.arts.number >= ARTS_MOST) {
      return refuse(NO_ROOM);
    }
    return accept(world.arts.come(takes, once));
  }

  public int rule(int art, int what, int value) {
    if (!ruleCanBe(what, value) || what == NEEDS_RULE && !world.arts.canNeed(art, value)) {
      return refuse(BAD_NUMBER);
    }
    if (!world.arts.holds(art)) {
      return refuse(NOT_THERE);
    }
    return accept(world.arts.change(art, what, value));
  }

  public int know(int one, int art, int level) {
    if (level < 0 || level > LEVEL_MOST) {
      return refuse(BAD_NUMBER);
    }
    if (!world.holds(one, art)) {
      return refuse(NOT_THERE);
    }
    return accept(world.people.setLevel(one, art, level));
  }

  public int of(int one, int what) {
    if (!world.people.holds(one) || what < 0 || what > TRAITS + ARTS_MOST) {
      return NONE;
    }
    if (what < TRAITS) {
      return world.people.trait(one, what);
    }
    if (what == TRAITS) {
      return world.people.meets[one];
    }
    int art = what - TRAITS - 1;
    return world.arts.holds(art) ? world.people.level(one, art) : 0;
  }

  public int feed(int a, int b, int c, int d, int e) {
    if (tape.length + FEED_BYTES > TAPE_MOST) {
      return NONE;
    }
    tape.take(a);
    tape.take(b);
    tape.take(c);
    tape.take(d);
    tape.take(e);
    return tape.length;
  }

  public int end(int n) {
    if (n < 0 || n > tape.length) {
      return NONE;
    }
    tape.length = n;
    return n;
  }

  public int row(int art) {
    if (!world.arts.holds(art)) {
      return refuse(NOT_THERE);
    }
    if (tape.length == 0) {
      return refuse(BAD_TEXT);
    }
    int came = takeLevels(art);
    latestSlack = tape.length - came;
    tape.length = 0;
    return accept(came);
  }

  public int slack() {
    return latestSlack;
  }

  public int law() {
    int length = tape.length;
    tape.length = 0;
    if (world.lawNumber >= LAWS_MOST) {
      return refuse(NO_ROOM);
    }
    Law read = reader.read(tape.bytes, length);
    latestFault = read == null ? reader.start : NONE;
    if (read == null) {
      return refuse(BAD_TEXT);
    }
    return accept(world.keep(read));
  }

  public int fault() {
    return latestFault;
  }

  public int force(int law) {
    if (law < NONE || law >= world.lawNumber) {
      return refuse(NOT_THERE);
    }
    int was = world.inForce;
    world.inForce = law;
    return accept(was);
  }

  public int handed(int teller, int learner, int art, int what) {
    if (!world.holds(teller, art) || !world.people.holds(learner) || teller == learner) {
      return NONE;
    }
    People people = world.people;
    voice.about(world.arts, art, 0, 1);
    voice.between(people, teller, people.level(teller, art), learner, people.level(learner, art));
    Law law = world.lawInForce();
    switch (what) {
      case 0:
        return voice.told(law, LEARNT);
      case 1:
        return voice.told(law, TAKES);
      case 2:
        return voice.told(law, REFUSES);
      case 3:
        return voice.told(law, WRONG);
      default:
        return NONE;
    }
  }

  public int show(int day, int teller, int art, int learners) {
    if (!dayCanBe(day) || (learners & ~world.people.everybody()) != 0) {
      return refuse(BAD_NUMBER);
    }
    if (!world.holds(teller, art)) {
      return refuse(NOT_THERE);
    }
    if (world.showings.number >= SHOWINGS_MOST) {
      return refuse(NO_ROOM);
    }
    return accept(world.showings.come(day, teller, art, learners));
  }

  public int wrong(int showing, int wrong) {
    if (wrong != 0 && wrong != 1) {
      return refuse(BAD_NUMBER);
    }
    if (!world.showings.holds(showing)) {
      return refuse(NOT_THERE);
    }
    int was = world.showings.wrong[showing];
    world.showings.wrong[showing] = wrong;
    return accept(was);
  }

  public int clear() {
    int were = world.showings.number;
    world.showings.number = 0;
    changes++;
    return were;
  }

  public int behind(int day, int one, int art) {
    if (!dayCanBe(day) || !world.holds(one, art)) {
      return NONE;
    }
    plan.goThrough(world, voice, changes);
    return plan.levels[(day + 1) * CELLS + cell(one, art)];
  }

  public int has(int day, int one, int art) {
    if (!dayCanBe(day) || !world.holds(one, art)) {
      return NONE;
    }
    plan.goThrough(world, voice, changes);
    return plan.wrongs[(day + 1) * CELLS + cell(one, art)];
  }

  public int spent(int day, int one) {
    if (!dayCanBe(day) || !world.people.holds(one)) {
      return NONE;
    }
    plan.goThrough(world, voice, changes);
    return plan.hours[day * PEOPLE_MOST + one];
  }

  public int why(int showing) {
    if (!world.showings.holds(showing)) {
      return NONE;
    }
    plan.goThrough(world, voice, changes);
    return plan.reasons[showing];
  }

  public int judge(int what) {
    plan.goThrough(world, voice, changes);
    switch (what) {
      case 0:
        return plan.droppedNumber(world.showings.number);
      case 1:
        return plan.droppedFirst(world.showings.number);
      case 2:
        return plan.allHours();
      case 3:
        return plan.enoughDay(world);
      case 4:
        return plan.wrongNumber();
      default:
        return NONE;
    }
  }

  public int soonest(int art) {
    if (!world.arts.holds(art)) {
      return NONE;
    }
    return soonestOf(art, world.people.everybody(), world.people.knowing(art));
  }

  public int first(int art, int day) {
    if (!world.arts.holds(art) || day != NONE && !dayCanBe(day)) {
      return NONE;
    }
    spread.findPath(world, art, changes);
    if (spread.pathDays == NONE) {
      return NONE;
    }
    return spread.path[Math.min(day + 1, spread.pathDays)];
  }

  public int fewest(int art, int what) {
    if (!world.arts.holds(art) || what != 0 && what != 1) {
      return NONE;
    }
    int knowing = world.people.knowing(art);
    int showings = spread.showingsFrom(world, art, knowing);
    if (what == 0 || showings <= 0) {
      return what == 0 ? showings : NONE;
    }
    return spread.firstShower(world, art, knowing);
  }

  public int without(int art, int one) {
    if (!world.holds(one, art)) {
      return NONE;
    }
    return soonestWithout(art, one);
  }

  public int left(int art) {
    if (!world.arts.holds(art)) {
      return NONE;
    }
    int found = NONE;
    int fewestDays = DAYS + 1;
    for (int one = 0; one < world.people.number; one++) {
      int days = soonestWithout(art, one);
      if (days != NONE && days < fewestDays) {
        found = one;
        fewestDays = days;
      }
    }
    return found;
  }

  public int start(int art, int one) {
    if (!world.holds(one, art)) {
      return NONE;
    }
    return soonestOf(art, world.people.everybody(), 1 << one);
  }

  public int best(int art) {
    if (!world.arts.holds(art)) {
      return NONE;
    }
    int found = NONE;
    int fewestDays = DAYS + 1;
    for (int one = 0; one < world.people.number; one++) {
      int days = soonestOf(art, world.people.everybody(), 1 << one);
      if (days != NONE && days < fewestDays) {
        found = one;
        fewestDays = days;
      }
    }
    return found;
  }

  public int alike(int m, int k, int t, int w) {
    if (!alikeCanBe(m, k, t) || w < 1 || w > LEVEL_MOST) {
      return NONE;
    }
    return alikeDays(m, k, t, w);
  }

  public int well(int m, int k, int t, int d) {
    if (!alikeCanBe(m, k, t) || d < 0 || d > ALIKE_MOST) {
      return NONE;
    }
    for (int w = LEVEL_MOST; w >= 1; w--) {
      int days = alikeDays(m, k, t, w);
      if (days != NONE && days <= d) {
        return w;
      }
    }
    return 0;
  }

  public int ring(int first, int art) {
    if (!world.holds(first, art)) {
      return NONE;
    }
    People people = world.people;
    int level = people.level(first, art);
    int teller = first;
    voice.about(world.arts, art, 0, 1);
    for (int i = 1; i < people.number; i++) {
      int learner = people.nextInRing(teller);
      int own = people.level(learner, art);
      voice.between(people, teller, level, learner, own);
      level = Math.max(own, voice.told(world.lawInForce(), LEARNT));
      teller = learner;
    }
    if (teller == first) {
      return level;
    }
    voice.between(people, teller, level, first, people.level(first, art));
    return voice.told(world.lawInForce(), LEARNT);
  }

  public int order(int i) {
    int placed = 0;
    for (int place = 0; place < world.arts.number; place++) {
      int next = world.arts.firstFree(placed);
      if (next == NONE) {
        return i == NONE ? place : NONE;
      }
      if (place == i) {
        return next;
      }
      placed |= 1 << next;
    }
    return i == NONE ? world.arts.number : NONE;
  }

  public int talk(int one, int other) {
    if (!world.people.holds(one) || !world.people.holds(other)) {
      return refuse(NOT_THERE);
    }
    if (one == other || !world.people.meeting(one, other)) {
      return refuse(CANT_BE);
    }
    return accept(world.people.tellAll(one, other));
  }

  public int heard(int one) {
    if (one == NONE) {
      return world.people.talked;
    }
    return world.people.holds(one) ? world.people.heardOf[one] : NONE;
  }

  public int talks(int n) {
    if (n < 1 || n > TALKERS_MOST) {
      return NONE;
    }
    if (n <= 3) {
      return n * (n - 1) / 2;
    }
    return 2 * n - 4;
  }

  public int week(int art, int seed) {
    if (seed < 0 || seed > SEED_MOST) {
      return refuse(BAD_NUMBER);
    }
    if (!world.arts.holds(art)) {
      return refuse(NOT_THERE);
    }
    return accept(latest.goThrough(world, voice, art, seed));
  }

  public int drawn(int day, int one) {
    if (!latest.kept) {
      return NONE;
    }
    if (one == NONE && day == 0) {
      return latest.spoilt;
    }
    if (day < 0 || day >= WEEK_DAYS || one < 0 || one >= latest.number) {
      return NONE;
    }
    return latest.levels[(day + 1) * PEOPLE_MOST + one];
  }

  public int image(int k) {
    if (k < 0 || k >= IMAGES_MOST) {
      return refuse(BAD_NUMBER);
    }
    if (images[k] == null) {
      images[k] = new World();
    }
    images[k].copyFrom(world);
    return accept(0);
  }

  public int back(int k) {
    if (k < 0 || k >= IMAGES_MOST) {
      return refuse(BAD_NUMBER);
    }
    if (images[k] == null) {
      return refuse(NOT_THERE);
    }
    world.copyFrom(images[k]);
    return accept(0);
  }

  public int count(int what) {
    switch (what) {
      case 0:
        return world.people.number;
      case 1:
        return world.arts.number;
      case 2:
        return world.lawNumber;
      case 3:
        return world.showings.number;
      case 4:
        return tape.length;
      case 5:
      case 6:
      case 7:
      case 8:
      case 9:
        return refusedBy[what - 5];
      case 10:
        return world.inForce;
      default:
        return NONE;
    }
  }

  public int status() {
    return latestStatus;
  }

  private int refuse(int by) {
    latestStatus = by;
    refusedBy[refusalPlace(by)]++;
    return by;
  }

  private int accept(int answer) {
    latestStatus = 0;
    changes++;
    return answer;
  }

  // There is no -4, so the places close up behind -3.
  private static int refusalPlace(int by) {
    switch (by) {
      case BAD_NUMBER:
        return 0;
      case NOT_THERE:
        return 1;
      case CANT_BE:
        return 2;
      case NO_ROOM:
        return 3;
      default:
        return 4;
    }
  }

  private static boolean traitCanBe(int what, int value) {
    return what >= 0 && what < TRAITS && value >= 0 && value <= TRAIT_MOST[what];
  }

  private static boolean ruleCanBe(int what, int value) {
    return what >= 0 && what < RULES && value >= RULE_LEAST[what] && value <= RULE_MOST[what];
  }

  private static boolean dayCanBe(int day) {
    return day >= 0 && day < DAYS;
  }

  private static boolean alikeCanBe(int m, int k, int t) {
    return m >= 1 && m <= ALIKE_MOST && k >= 1 && k <= ALIKE_ONCE_MOST && t >= 1 && t <= LEVEL_MOST;
  }

  private static int cell(int one, int art) {
    return one * ARTS_MOST + art;
  }

  private int takeLevels(int art) {
    int came = 0;
    for (int one = 0; one < world.people.number && one < tape.length; one++) {
      if (tape.bytes[one] <= LEVEL_MOST) {
        world.people.setLevel(one, art, tape.bytes[one]);
        came++;
      }
    }
    return came;
  }

  private int soonestOf(int art, int everybody, int knowing) {
    spread.prepare(world, art, everybody);
    return spread.days(world.people, knowing);
  }

  private int soonestWithout(int art, int one) {
    int others = world.people.everybody() & ~(1 << one);
    return soonestOf(art, others, world.people.knowing(art) & others);
  }

  // Only those above w show it: what the others hand on would not do. Nobody gains by waiting.
  private int alikeDays(int m, int k, int t, int w) {
    if (t < w || t == w && m > 1) {
      return NONE;
    }
    Arrays.fill(alikeOnes, 0);
    alikeOnes[t] = 1;
    int having = 1;
    int days = 0;
    while (having < m && days < ALIKE_MOST) {
      for (int level = w + 1; level <= t; level++) {
        int shown = k * alikeOnes[level];
        alikeOnes[level - 1] += shown;
        having += shown;
      }
      days++;
    }
    return days;
  }

  /** PEOPLE, whom they MEET, what they KNOW ahead of DAY 0, and their TALKS. */
  private static final class People {
    int number = 0;
    int talked = 0;
    final int[] traits = new int[TRAITS * PEOPLE_MOST];
    final int[] meets = new int[PEOPLE_MOST];
    final int[] heardOf = new int[PEOPLE_MOST];
    final int[] knows = new int[CELLS];

    boolean holds(int one) {
      return one >= 0 && one < number;
    }

    int everybody() {
      return (1 << number) - 1;
    }

    int come(int learn, int tell, int hours) {
      int one = number;
      traits[LEARN_TRAIT * PEOPLE_MOST + one] = learn;
      traits[TELL_TRAIT * PEOPLE_MOST + one] = tell;
      traits[HOURS_TRAIT * PEOPLE_MOST + one] = hours;
      traits[AWAY_TRAIT * PEOPLE_MOST + one] = 0;
      heardOf[one] = 1 << one;
      meets[one] = everybody();
      for (int other = 0; other < one; other++) {
        meets[other] |= 1 << one;
      }
      for (int art = 0; art < ARTS_MOST; art++) {
        knows[cell(one, art)] = 0;
      }
      number++;
      return one;
    }

    int trait(int one, int what) {
      return traits[what * PEOPLE_MOST + one];
    }

    int change(int one, int what, int value) {
      int was = trait(one, what);
      traits[what * PEOPLE_MOST + one] = value;
      return was;
    }

    boolean away(int one, int day) {
      return (trait(one, AWAY_TRAIT) >> day & 1) != 0;
    }

    boolean meeting(int one, int other) {
      return (meets[one] >> other & 1) != 0;
    }

    int setMeeting(int one, int other, int meet) {
      int was = meets[one] >> other & 1;
      meets[one] = meets[one] & ~(1 << other) | meet << other;
      meets[other] = meets[other] & ~(1 << one) | meet << one;
      return was;
    }

    int level(int one, int art) {
      return knows[cell(one, art)];
    }

    int setLevel(int one, int art, int level) {
      int was = level(one, art);
      knows[cell(one, art)] = level;
      return was;
    }

    int knowing(int art) {
      int found = 0;
      for (int one = 0; one < number; one++) {
        if (level(one, art) > 0) {
          found |= 1 << one;
        }
      }
      return found;
    }

    int nextInRing(int one) {
      return one + 1 < number ? one + 1 : 0;
    }

    int tellAll(int one, int other) {
      int both = heardOf[one] | heardOf[other];
      heardOf[one] = both;
      heardOf[other] = both;
      talked++;
      int found = 0;
      for (int each = 0; each < number; each++) {
        if (heardOf[each] == everybody()) {
          found++;
        }
      }
      return found;
    }

    void copyFrom(People from) {
      number = from.number;
      talked = from.talked;
      System.arraycopy(from.traits, 0, traits, 0, traits.length);
      System.arraycopy(from.meets, 0, meets, 0, meets.length);
      System.arraycopy(from.heardOf, 0, heardOf, 0, heardOf.length);
      System.arraycopy(from.knows, 0, knows, 0, knows.length);
    }
  }

  /** ARTS and the rules of each. */
  private static final class Arts {
    int number = 0;
    final int[] rules = new int[RULES * ARTS_MOST];

    boolean holds(int art) {
      return art >= 0 && art < number;
    }

    int come(int takes, int once) {
      int art = number;
      rules[TAKES_RULE * ARTS_MOST + art] = takes;
      rules[ONCE_RULE * ARTS_MOST + art] = once;
      rules[LEAST_RULE * ARTS_MOST + art] = 1;
      rules[NEEDS_RULE * ARTS_MOST + art] = 0;
      number++;
      return art;
    }

    int given(int art, int what) {
      return rules[what * ARTS_MOST + art];
    }

    int change(int art, int what, int value) {
      int was = given(art, what);
      rules[what * ARTS_MOST + art] = value;
      return was;
    }

    boolean canNeed(int art, int needed) {
      boolean itself = holds(art) && (needed >> art & 1) != 0;
      return needed >> number == 0 && !itself;
    }

    int firstFree(int placed) {
      for (int art = 0; art < number; art++) {
        boolean stands = (placed >> art & 1) != 0;
        if (!stands && (given(art, NEEDS_RULE) & ~placed) == 0) {
          return art;
        }
      }
      return NONE;
    }

    void copyFrom(Arts from) {
      number = from.number;
      System.arraycopy(from.rules, 0, rules, 0, rules.length);
    }
  }

  /** SHOWINGS in the order in which they were told. */
  private static final class Showings {
    int number = 0;
    final int[] days = new int[SHOWINGS_MOST];
    final int[] tellers = new int[SHOWINGS_MOST];
    final int[] arts = new int[SHOWINGS_MOST];
    final int[] learners = new int[SHOWINGS_MOST];
    final int[] wrong = new int[SHOWINGS_MOST];

    boolean holds(int showing) {
      return showing >= 0 && showing < number;
    }

    int come(int day, int teller, int art, int shownTo) {
      int showing = number;
      days[showing] = day;
      tellers[showing] = teller;
      arts[showing] = art;
      learners[showing] = shownTo;
      wrong[showing] = 0;
      number++;
      return showing;
    }

    void copyFrom(Showings from) {
      number = from.number;
      System.arraycopy(from.days, 0, days, 0, days.length);
      System.arraycopy(from.tellers, 0, tellers, 0, tellers.length);
      System.arraycopy(from.arts, 0, arts, 0, arts.length);
      System.arraycopy(from.learners, 0, learners, 0, learners.length);
      System.arraycopy(from.wrong, 0, wrong, 0, wrong.length);
    }
  }

  /** All that an IMAGE keeps. */
  private static final class World {
    final People people = new People();
    final Arts arts = new Arts();
    final Showings showings = new Showings();
    // A LAW never changes once it is read, so IMAGES may share it.
    final Law[] laws = new Law[LAWS_MOST];
    int lawNumber = 0;
    int inForce = NONE;

    boolean holds(int one, int art) {
      return people.holds(one) && arts.holds(art);
    }

    int keep(Law law) {
      int place = lawNumber;
      laws[place] = law;
      lawNumber++;
      return place;
    }

    Law lawInForce() {
      return inForce >= 0 && inForce < lawNumber ? laws[inForce] : null;
    }

    void copyFrom(World from) {
      people.copyFrom(from.people);
      arts.copyFrom(from.arts);
      showings.copyFrom(from.showings);
      for (int i = 0; i < LAWS_MOST; i++) {
        laws[i] = from.laws[i];
      }
      lawNumber = from.lawNumber;
      inForce = from.inForce;
    }
  }

  /** The bytes that were fed, each 0 .. 255. */
  private static final class Tape {
    int length = 0;
    final int[] bytes = new int[TAPE_MOST];

    void take(int four) {
      for (int shift = 24; shift >= 0 && length < TAPE_MOST; shift -= 8) {
        bytes[length] = four >>> shift & 255;
        length++;
      }
    }
  }

  /** A LAW as steps for a stack: a CLAUSE leaves its SUM and, above it, whether its "if" is so. */
  private static final class Law {
    final int[] heads;
    final int[] ends;
    final int[] steps;

    Law(int[] heads, int[] ends, int[] steps) {
      this.heads = heads;
      this.ends = ends;
      this.steps = steps;
    }
  }

  /** Reads a TEXT. What can't go on answers false and stays at the TOKEN: its start is FAULT. */
  private static final class Reader {
    int start = 0;
    private int[] text = new int[0];
    private int length = 0;
    private int next = 0;
    private int kind = END;
    private int value = 0;
    private int parts = 0;
    private int brackets = 0;
    private int clauses = 0;
    private int size = 0;
    private final char[] words = WORDS.toCharArray();
    private final char[] signs = SIGNS.toCharArray();
    private final int[] heads = new int[CLAUSES_MOST];
    private final int[] ends = new int[CLAUSES_MOST];
    private final int[] steps = new int[CODE_MOST];

    Law read(int[] bytes, int count) {
      text = bytes;
      length = Math.min(count, bytes.length);
      next = 0;
      parts = 0;
      brackets = 0;
      clauses = 0;
      size = 0;
      advance();
      for (int i = 0; i < CLAUSES_MOST; i++) {
        if (!readClause()) {
          return null;
        }
        if (kind == END) {
          return new Law(Arrays.copyOf(heads, clauses), Arrays.copyOf(ends, clauses),
              Arrays.copyOf(steps, size));
        }
        if (kind != SEMICOLON) {
          return null;
        }
        advance();
      }
      return null;
    }

    private boolean readClause() {
      int head = kind;
      if (head != LEARNT && head != TAKES && head != WRONG && head != REFUSES) {
        return false;
      }
      advance();
      if (head == REFUSES) {
        leave(NUMBER, 1);
      } else if (!readSum()) {
        return false;
      }
      if (kind != IF) {
        leave(NUMBER, 1);
      } else {
        advance();
        if (!readTest()) {
          return false;
        }
      }
      heads[clauses] = head;
      ends[clauses] = size;
      clauses++;
      return true;
    }

    private boolean readTest() {
      boolean good = readBoth();
      for (int i = 0; good && kind == OR && i < TAPE_MOST; i++) {
        int jump = size;
        leave(OR, 0);
        advance();
        good = readBoth();
        aim(jump);
      }
      return good;
    }

    private boolean readBoth() {
      boolean good = readPlain();
      for (int i = 0; good && kind == AND && i < TAPE_MOST; i++) {
        int jump = size;
        leave(AND, 0);
        advance();
        good = readPlain();
        aim(jump);
      }
      return good;
    }

    // A row of "not" is read in a loop, so that it does not go deep.
    private boolean readPlain() {
      boolean turned = false;
      for (int i = 0; kind == NOT && i < TAPE_MOST; i++) {
        turned = !turned;
        advance();
      }
      boolean good = kind == OPEN ? readBracket(CLOSE) : readComparison();
      if (good && turned) {
        leave(NOT, 0);
      }
      return good;
    }

    private boolean readComparison() {
      if (!readSum()) {
        return false;
      }
      int sign = kind;
      if (sign != LESS && sign != MORE && sign != SAME) {
        return false;
      }
      advance();
      if (!readSum()) {
        return false;
      }
      leave(sign, 0);
      return true;
    }

    private boolean readBracket(int close) {
      if (brackets >= BRACKETS_MOST) {
        return false;
      }
      brackets++;
      advance();
      boolean good = close == CLOSE ? readTest() : readSum();
      if (!good || kind != close) {
        return false;
      }
      brackets--;
      advance();
      return true;
    }

    private boolean readSum() {
      boolean good = readTerm();
      for (int i = 0; good && (kind == PLUS || kind == MINUS) && i < TAPE_MOST; i++) {
        int sign = kind;
        advance();
        good = readTerm();
        leave(sign, 0);
      }
      return good;
    }

    private boolean readTerm() {
      boolean good = readPart();
      for (int i = 0; good && (kind == TIMES || kind == OVER) && i < TAPE_MOST; i++) {
        int sign = kind;
        advance();
        good = readPart();
        leave(sign, 0);
      }
      return good;
    }

    private boolean readPart() {
      if (kind == OPEN_SUM) {
        return readBracket(CLOSE_SUM);
      }
      boolean word = kind >= KNOWS && kind <= ONCE;
      boolean number = kind == NUMBER && value <= NUMBER_MOST;
      if (!word && !number || parts >= PARTS_MOST) {
        return false;
      }
      parts++;
      leave(kind, number ? value : 0);
      advance();
      return true;
    }

    private void leave(int what, int with) {
      if (size < steps.length) {
        steps[size] = what | with << KIND_BITS;
        size++;
      }
    }

    private void aim(int jump) {
      if (jump < steps.length) {
        steps[jump] |= size << KIND_BITS;
      }
    }

    private void advance() {
      while (next < length && text[next] == BLANK) {
        next++;
      }
      start = next;
      if (next >= length) {
        kind = END;
      } else if (isLetter(text[next])) {
        takeWord();
      } else if (isDigit(text[next])) {
        takeNumber();
      } else {
        takeSign();
      }
    }

    private void takeSign() {
      kind = OTHER;
      for (int i = 0; i < signs.length; i++) {
        if (signs[i] == text[next]) {
          kind = SEMICOLON + i;
        }
      }
      next++;
    }

    private void takeWord() {
      while (next < length && isLetter(text[next])) {
        next++;
      }
      kind = OTHER;
      int word = 0;
      int from = 0;
      for (int i = 0; i < words.length && kind == OTHER; i++) {
        if (words[i] == ' ') {
          if (isWord(from, i)) {
            kind = word;
          }
          word++;
          from = i + 1;
        }
      }
    }

    private boolean isWord(int from, int to) {
      if (to - from != next - start) {
        return false;
      }
      for (int i = from; i < to; i++) {
        if (words[i] != text[start + i - from]) {
          return false;
        }
      }
      return true;
    }

    // What is too great stays just too great, however long the row of digits is.
    private void takeNumber() {
      kind = NUMBER;
      value = 0;
      while (next < length && isDigit(text[next])) {
        value = Math.min(value * 10 + text[next] - '0', NUMBER_MOST + 1);
        next++;
      }
    }

    private static boolean isLetter(int sign) {
      return sign >= 'a' && sign <= 'z';
    }

    private static boolean isDigit(int sign) {
      return sign >= '0' && sign <= '9';
    }
  }

  /** Asks a LAW (null: none in FORCE) of a teller and a learner. */
  private static final class Voice {
    private final int[] asked = new int[ASKED];
    private final int[] stack = new int[STACK_MOST];
    private final int[] without = new int[HEADS];

    void about(Arts arts, int art, int day, int once) {
      without[TAKES] = arts.given(art, TAKES_RULE);
      asked[ART - KNOWS] = art;
      asked[DAY - KNOWS] = day;
      asked[ONCE - KNOWS] = once;
    }

    void between(People people, int teller, int level, int learner, int had) {
      without[LEARNT] = Math.max(level - 1, 0);
      asked[KNOWS - KNOWS] = level;
      asked[HAS - KNOWS] = had;
      asked[TELL - KNOWS] = people.trait(teller, TELL_TRAIT);
      asked[LEARN - KNOWS] = people.trait(learner, LEARN_TRAIT);
      asked[TELLER - KNOWS] = teller;
      asked[LEARNER - KNOWS] = learner;
    }

    int told(Law law, int head) {
      if (law == null) {
        return without[head];
      }
      for (int clause = law.heads.length - 1; clause >= 0; clause--) {
        if (law.heads[clause] == head && clauseHolds(law, clause)) {
          return Math.max(TOLD_LEAST[head], Math.min(TOLD_MOST[head], stack[0]));
        }
      }
      return without[head];
    }

    private boolean clauseHolds(Law law, int clause) {
      int top = 0;
      int to = law.ends[clause];
      for (int i = clause == 0 ? 0 : law.ends[clause - 1]; i < to; i++) {
        int kind = law.steps[i] & KIND_MASK;
        int with = law.steps[i] >> KIND_BITS;
        if (kind == NUMBER || kind >= KNOWS && kind <= ONCE) {
          if (top >= stack.length) {
            return false;
          }
          stack[top] = kind == NUMBER ? with : asked[kind - KNOWS];
          top++;
        } else if (top == 0) {
          return false;
        } else if (kind == NOT) {
          stack[top - 1] = 1 - stack[top - 1];
        } else if (kind == AND || kind == OR) {
          boolean settled = (stack[top - 1] != 0) == (kind == OR);
          if (!settled) {
            top--;
          } else if (with > i) {
            i = with - 1;
          }
        } else {
          top--;
          if (top == 0 || !join(kind, top)) {
            return false;
          }
        }
      }
      return top == 2 && stack[1] != 0;
    }

    // False: it is BROKEN.
    private boolean join(int kind, int top) {
      long a = stack[top - 1];
      long b = stack[top];
      long c = 0;
      switch (kind) {
        case PLUS:
          c = a + b;
          break;
        case MINUS:
          c = a - b;
          break;
        case TIMES:
          c = a * b;
          break;
        case OVER:
          if (b == 0) {
            return false;
          }
          c = a / b;
          break;
        case LESS:
          c = a < b ? 1 : 0;
          break;
        case MORE:
          c = a > b ? 1 : 0;
          break;
        default:
          c = a == b ? 1 : 0;
          break;
      }
      if (c > BROKEN_BEYOND || c < -BROKEN_BEYOND) {
        return false;
      }
      stack[top - 1] = (int) c;
      return true;
    }
  }

  /** The SHOWINGS gone through, DAY by DAY. Row 0 is ahead of DAY 0, row d + 1 behind DAY d. */
  private static final class Plan {
    final int[] levels = new int[(DAYS + 1) * CELLS];
    // Nothing is WRONG ahead of DAY 0: row 0 stays as it was made.
    final int[] wrongs = new int[(DAYS + 1) * CELLS];
    final int[] hours = new int[DAYS * PEOPLE_MOST];
    final int[] reasons = new int[SHOWINGS_MOST];
    private int seen = NONE;

    void goThrough(World world, Voice voice, int changes) {
      if (seen == changes) {
        return;
      }
      seen = changes;
      Arrays.fill(hours, 0);
      System.arraycopy(world.people.knows, 0, levels, 0, CELLS);
      for (int day = 0; day < DAYS; day++) {
        System.arraycopy(levels, day * CELLS, levels, (day + 1) * CELLS, CELLS);
        System.arraycopy(wrongs, day * CELLS, wrongs, (day + 1) * CELLS, CELLS);
        for (int i = 0; i < world.showings.number; i++) {
          if (world.showings.days[i] == day) {
            goThroughOne(world, voice, i);
          }
        }
      }
    }

    private void goThroughOne(World world, Voice voice, int i) {
      Showings showings = world.showings;
      int art = showings.arts[i];
      int learners = showings.learners[i];
      int takes = world.arts.given(art, TAKES_RULE);
      voice.about(world.arts, art, showings.days[i], Integer.bitCount(learners));
      if (learners != 0) {
        askBetween(world, voice, i, Integer.numberOfTrailingZeros(learners));
        takes = voice.told(world.lawInForce(), TAKES);
      }
      reasons[i] = tellerReason(world, i, takes);
      if (reasons[i] == 0) {
        reasons[i] = learnersReason(world, voice, i, takes);
      }
      if (reasons[i] == 0) {
        handOver(world, voice, i, takes);
      }
    }

    private void askBetween(World world, Voice voice, int i, int learner) {
      int row = world.showings.days[i] * CELLS;
      int art = world.showings.arts[i];
      int teller = world.showings.tellers[i];
      voice.between(world.people, teller, levels[row + cell(teller, art)],
          learner, levels[row + cell(learner, art)]);
    }

    private int tellerReason(World world, int i, int takes) {
      int day = world.showings.days[i];
      int art = world.showings.arts[i];
      int teller = world.showings.tellers[i];
      int learners = world.showings.learners[i];
      if (levels[day * CELLS + cell(teller, art)] == 0) {
        return 1;
      }
      if (world.people.away(teller, day)) {
        return 2;
      }
      if (hoursLeft(world.people, day, teller) < takes) {
        return 3;
      }
      int shown = Integer.bitCount(learners);
      if (shown < 1 || shown > world.arts.given(art, ONCE_RULE) || (learners >> teller & 1) != 0) {
        return 4;
      }
      return 0;
    }

    // The first reason of all learners is the least of what would be first for each of them.
    private int learnersReason(World world, Voice voice, int i, int takes) {
      int found = 0;
      for (int one = 0; one < world.people.number; one++) {
        if ((world.showings.learners[i] >> one & 1) != 0) {
          int reason = learnerReason(world, i, one, takes);
          askBetween(world, voice, i, one);
          if (reason == 0 && voice.told(world.lawInForce(), REFUSES) != 0) {
            reason = 9;
          }
          if (reason != 0 && (found == 0 || reason < found)) {
            found = reason;
          }
        }
      }
      return found;
    }

    private int learnerReason(World world, int i, int one, int takes) {
      int day = world.showings.days[i];
      if (world.people.away(one, day)) {
        return 5;
      }
      if (!world.people.meeting(world.showings.tellers[i], one)) {
        return 6;
      }
      if (hoursLeft(world.people, day, one) < takes) {
        return 7;
      }
      return hasNeeded(world.arts, world.showings.arts[i], day, one) ? 0 : 8;
    }

    private int hoursLeft(People people, int day, int one) {
      return people.trait(one, HOURS_TRAIT) - hours[day * PEOPLE_MOST + one];
    }

    private boolean hasNeeded(Arts arts, int art, int day, int one) {
      int needed = arts.given(art, NEEDS_RULE);
      for (int other = 0; other < arts.number; other++) {
        if ((needed >> other & 1) != 0
            && levels[day * CELLS + cell(one, other)] < arts.given(other, LEAST_RULE)) {
          return false;
        }
      }
      return true;
    }

    private void handOver(World world, Voice voice, int i, int takes) {
      Showings showings = world.showings;
      int day = showings.days[i];
      int art = showings.arts[i];
      int teller = showings.tellers[i];
      int wrong = showings.wrong[i] | wrongs[day * CELLS + cell(teller, art)];
      hours[day * PEOPLE_MOST + teller] += takes;
      for (int one = 0; one < world.people.number; one++) {
        if ((showings.learners[i] >> one & 1) != 0) {
          hours[day * PEOPLE_MOST + one] += takes;
          askBetween(world, voice, i, one);
          int level = voice.told(world.lawInForce(), LEARNT);
          int place = (day + 1) * CELLS + cell(one, art);
          if (level > levels[place]) {
            levels[place] = level;
            wrongs[place] = wrong;
          }
        }
      }
    }

    int droppedNumber(int showings) {
      int found = 0;
      for (int i = 0; i < showings; i++) {
        if (reasons[i] != 0) {
          found++;
        }
      }
      return found;
    }

    int droppedFirst(int showings) {
      for (int i = 0; i < showings; i++) {
        if (reasons[i] != 0) {
          return i;
        }
      }
      return NONE;
    }

    int allHours() {
      int sum = 0;
      for (int i = 0; i < hours.length; i++) {
        sum += hours[i];
      }
      return sum;
    }

    int enoughDay(World world) {
      for (int day = 0; day < DAYS; day++) {
        if (allHaveEnough(world, day)) {
          return day;
        }
      }
      return NONE;
    }

    private boolean allHaveEnough(World world, int day) {
      for (int one = 0; one < world.people.number; one++) {
        for (int art = 0; art < world.arts.number; art++) {
          int level = levels[(day + 1) * CELLS + cell(one, art)];
          if (level < world.arts.given(art, LEAST_RULE)) {
            return false;
          }
        }
      }
      return true;
    }

    int wrongNumber() {
      int sum = 0;
      for (int i = DAYS * CELLS; i < wrongs.length; i++) {
        sum += wrongs[i];
      }
      return sum;
    }
  }

  /**
   * How soon, and with how few SHOWINGS, all KNOW an ART. Who KNOWS it is a set, as bits. To KNOW
   * more is never a hindrance, so the ways in which as many as can be are shown it are enough to
   * find the fewest. Of those who can be shown on a DAY all greatest sets are equally great (they
   * are the bases of a matroid).
   */
  private static final class Spread {
    int pathDays = NONE;
    final int[] path = new int[DAYS + 1];
    private int seen = NONE;
    private int seenArt = NONE;
    private int everybody = 0;
    private int able = 0;
    private int reach = 0;
    private int most = 0;
    private final int[] room = new int[PEOPLE_MOST];
    private final int[] present = new int[DAYS];
    private final boolean[] fits = new boolean[SETS];
    private final int[] marks = new int[SETS];
    private final int[] inTime = new int[SETS];

    void prepare(World world, int art, int who) {
      everybody = who;
      able = 0;
      int takes = Math.max(world.arts.given(art, TAKES_RULE), 1);
      for (int one = 0; one < PEOPLE_MOST; one++) {
        int times = world.people.trait(one, HOURS_TRAIT) / takes;
        room[one] = times * world.arts.given(art, ONCE_RULE);
        if (times > 0) {
          able |= 1 << one;
        }
      }
      for (int day = 0; day < DAYS; day++) {
        present[day] = 0;
        for (int one = 0; one < PEOPLE_MOST; one++) {
          if ((who >> one & 1) != 0 && !world.people.away(one, day)) {
            present[day] |= 1 << one;
          }
        }
      }
    }

    // A set is marked with the number of DAYS behind which it is reached. Sets only grow: going
    // from the greatest down, none is marked anew ahead of its own turn.
    int days(People people, int knowing) {
      Arrays.fill(marks, NONE);
      marks[knowing] = 0;
      for (int day = 0; day < DAYS; day++) {
        if (marks[everybody] == day) {
          return day;
        }
        for (int set = everybody; set >= knowing; set--) {
          if (marks[set] == day) {
            goOn(people, set, day);
          }
        }
      }
      return marks[everybody] == DAYS ? DAYS : NONE;
    }

    private void goOn(People people, int set, int day) {
      look(people, set, day);
      int shown = 0;
      for (int left = 1 << Integer.bitCount(reach); left > 0; left--) {
        if (fits[shown] && Integer.bitCount(shown) == most) {
          marks[set | shown] = day + 1;
        }
        shown = (shown - reach) & reach;
      }
    }

    // Goes through all parts of those who can be reached, smaller ones first. A part can be shown,
    // if for it and each part of it there is room enough with those who can show it (Hall).
    private void look(People people, int knowing, int day) {
      int tellers = present[day] & knowing & able;
      int open = present[day] & able & ~knowing;
      reach = 0;
      for (int one = 0; one < PEOPLE_MOST; one++) {
        if ((tellers >> one & 1) != 0) {
          reach |= people.meets[one] & open;
        }
      }
      most = 0;
      fits[0] = true;
      int shown = 0;
      for (int left = (1 << Integer.bitCount(reach)) - 1; left > 0; left--) {
        shown = (shown - reach) & reach;
        int size = Integer.bitCount(shown);
        fits[shown] = smallerFit(shown) && roomFor(people, tellers, shown) >= size;
        if (fits[shown]) {
          most = Math.max(most, size);
        }
      }
    }

    private boolean smallerFit(int shown) {
      for (int one = 0; one < PEOPLE_MOST; one++) {
        if ((shown >> one & 1) != 0 && !fits[shown & ~(1 << one)]) {
          return false;
        }
      }
      return true;
    }

    private int roomFor(People people, int tellers, int shown) {
      int sum = 0;
      for (int one = 0; one < PEOPLE_MOST; one++) {
        if ((tellers >> one & 1) != 0 && (people.meets[one] & shown) != 0) {
          sum += room[one];
        }
      }
      return sum;
    }

    void findPath(World world, int art, int changes) {
      if (seen == changes && seenArt == art) {
        return;
      }
      seen = changes;
      seenArt = art;
      int knowing = world.people.knowing(art);
      prepare(world, art, world.people.everybody());
      pathDays = days(world.people, knowing);
      if (pathDays != NONE) {
        markInTime(world.people, knowing);
        walk(world.people, knowing);
      }
    }

    // Bit d of inTime: who stands so at the beginning of DAY d can still do it so soon. How they
    // stand at the beginning of DAY 0 is given, so that is not asked.
    private void markInTime(People people, int knowing) {
      Arrays.fill(inTime, 0);
      inTime[everybody] = ~0;
      for (int day = pathDays - 1; day > 0; day--) {
        for (int set = everybody - 1; set >= knowing; set--) {
          if ((set & knowing) == knowing && canBeInTime(people, set, day)) {
            inTime[set] |= 1 << day;
          }
        }
      }
    }

    private boolean isInTime(int set, int day) {
      return (inTime[set] >> day & 1) != 0;
    }

    private boolean canBeInTime(People people, int set, int day) {
      if (isInTime(set, day + 1)) {
        return true;
      }
      look(people, set, day);
      int shown = 0;
      for (int left = 1 << Integer.bitCount(reach); left > 0; left--) {
        if (fits[shown] && Integer.bitCount(shown) == most && isInTime(set | shown, day + 1)) {
          return true;
        }
        shown = (shown - reach) & reach;
      }
      return false;
    }

    private void walk(People people, int knowing) {
      path[0] = knowing;
      for (int day = 0; day < pathDays; day++) {
        look(people, path[day], day);
        path[day + 1] = path[day] | lowestInTime(path[day], day);
      }
    }

    private int lowestInTime(int set, int day) {
      int shown = 0;
      for (int left = 1 << Integer.bitCount(reach); left > 0; left--) {
        if (fits[shown] && isInTime(set | shown, day + 1)) {
          return shown;
        }
        shown = (shown - reach) & reach;
      }
      return 0;
    }

    // A set is marked with the fewest SHOWINGS from it on.
    int showingsFrom(World world, int art, int knowing) {
      everybody = world.people.everybody();
      int once = world.arts.given(art, ONCE_RULE);
      Arrays.fill(marks, NONE);
      marks[everybody] = 0;
      for (int set = everybody - 1; set >= knowing; set--) {
        for (int one = 0; (set & knowing) == knowing && one < PEOPLE_MOST; one++) {
          int showings = showingsBy(world.people, once, set, one);
          if (showings != NONE && (marks[set] == NONE || showings < marks[set])) {
            marks[set] = showings;
          }
        }
      }
      return marks[knowing];
    }

    int firstShower(World world, int art, int knowing) {
      int once = world.arts.given(art, ONCE_RULE);
      for (int one = 0; one < PEOPLE_MOST; one++) {
        if (showingsBy(world.people, once, knowing, one) == marks[knowing]) {
          return one;
        }
      }
      return NONE;
    }

    private int showingsBy(People people, int once, int set, int one) {
      int fresh = (set >> one & 1) == 0 ? 0 : people.meets[one] & everybody & ~set;
      int size = Math.min(once, Integer.bitCount(fresh));
      int found = NONE;
      for (int shown = fresh; shown > 0; shown = (shown - 1) & fresh) {
        int then = Integer.bitCount(shown) == size ? marks[set | shown] : NONE;
        if (then != NONE && (found == NONE || then + 1 < found)) {
          found = then + 1;
        }
      }
      return found;
    }
  }

  /** The latest WEEK. Row 0 is ahead of DAY 0, row d + 1 behind DAY d. */
  private static final class Week {
    boolean kept = false;
    int number = 0;
    int spoilt = 0;
    final int[] levels = new int[(WEEK_DAYS + 1) * PEOPLE_MOST];
    private int seed = 0;

    int goThrough(World world, Voice voice, int art, int firstSeed) {
      kept = true;
      number = world.people.number;
      spoilt = 0;
      seed = firstSeed;
      for (int one = 0; one < number; one++) {
        levels[one] = world.people.level(one, art);
      }
      for (int day = 0; day < WEEK_DAYS; day++) {
        System.arraycopy(levels, day * PEOPLE_MOST, levels, (day + 1) * PEOPLE_MOST, PEOPLE_MOST);
        goThroughDay(world, voice, art, day);
      }
      int found = 0;
      for (int one = 0; one < number; one++) {
        if (levels[WEEK_DAYS * PEOPLE_MOST + one] > 0) {
          found++;
        }
      }
      return found;
    }

    private void goThroughDay(World world, Voice voice, int art, int day) {
      int shown = 0;
      voice.about(world.arts, art, day, 1);
      for (int teller = 0; teller < number; teller++) {
        if (levels[day * PEOPLE_MOST + teller] > 0 && !world.people.away(teller, day)) {
          int learner = draw(number);
          if (canBeShown(world.people, teller, learner, day) && (shown >> learner & 1) == 0) {
            shown |= 1 << learner;
            handOver(world, voice, day, teller, learner);
          }
        }
      }
    }

    private static boolean canBeShown(People people, int teller, int learner, int day) {
      return learner != teller && !people.away(learner, day) && people.meeting(teller, learner);
    }

    private void handOver(World world, Voice voice, int day, int teller, int learner) {
      int had = levels[day * PEOPLE_MOST + learner];
      voice.between(world.people, teller, levels[day * PEOPLE_MOST + teller], learner, had);
      int level = voice.told(world.lawInForce(), LEARNT);
      if (draw(100) < voice.told(world.lawInForce(), WRONG)) {
        spoilt++;
        level = Math.max(level - 1, 0);
      }
      levels[(day + 1) * PEOPLE_MOST + learner] = Math.max(had, level);
    }

    private int draw(int n) {
      seed = (seed * DRAW_TIMES + DRAW_MORE) % DRAW_MODULO;
      return n > 0 ? seed % n : 0;
    }
  }
}
