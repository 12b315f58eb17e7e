import java.util.Random;

/** Makes TEXTS of LAWS by chance: mostly good ones, some of them spoilt in one place. */
final class TextMaker {
  private static final String[] WORDS = {"knows", "has", "tell", "learn", "art", "day", "teller",
      "learner", "once"};
  private static final String[] ALL = {"learnt", "takes", "wrong", "refuses", "if", "or", "and",
      "not", "knows", "has", "once", "7", "1000", "1001", "007", ";", "(", ")", "[", "]", "<", ">",
      "=", "+", "-", "*", "/", "Knows", "x", "&", "\n", "" + (char) 233, "", " "};
  private final Random random;
  private final StringBuilder text = new StringBuilder();
  private int budget;

  TextMaker(Random random) {
    this.random = random;
  }

  String make() {
    text.setLength(0);
    budget = 5 + random.nextInt(40);
    int clauses = random.nextInt(20) == 0 ? 11 + random.nextInt(4) : 1 + random.nextInt(5);
    for (int i = 0; i < clauses; i++) {
      if (i > 0) {
        word(";");
      }
      clause();
    }
    String made = text.toString();
    if (random.nextInt(4) == 0) {
      made = spoil(made);
    }
    return made.length() > 400 ? made.substring(0, 400) : made;
  }

  private String spoil(String made) {
    int a = random.nextInt(made.length() + 1);
    int b = Math.min(made.length(), a + random.nextInt(4));
    String other = ALL[random.nextInt(ALL.length)];
    return made.substring(0, a) + (random.nextBoolean() ? " " + other + " " : other)
        + made.substring(b);
  }

  private void word(String w) {
    boolean apart = text.length() > 0 && Character.isLetterOrDigit(w.charAt(0))
        && Character.isLetterOrDigit(text.charAt(text.length() - 1));
    if (apart || random.nextInt(5) == 0) {
      text.append(" ");
    }
    text.append(w);
  }

  private void clause() {
    String[] heads = {"learnt", "learnt", "takes", "wrong", "refuses"};
    String head = heads[random.nextInt(heads.length)];
    word(head);
    if (!head.equals("refuses")) {
      if (head.equals("wrong") && random.nextBoolean()) {
        word("" + random.nextInt(101));
      } else {
        sum(0);
      }
    }
    if (head.equals("refuses") ? random.nextInt(8) > 0 : random.nextInt(3) > 0) {
      word("if");
      test(0);
    }
  }

  private void test(int depth) {
    both(depth);
    while (budget > 0 && random.nextInt(4) == 0) {
      word("or");
      both(depth);
    }
  }

  private void both(int depth) {
    plain(depth);
    while (budget > 0 && random.nextInt(4) == 0) {
      word("and");
      plain(depth);
    }
  }

  private void plain(int depth) {
    while (random.nextInt(6) == 0) {
      word("not");
    }
    if (depth < 9 && random.nextInt(6) == 0) {
      word("(");
      test(depth + 1);
      word(")");
      return;
    }
    sum(depth);
    word(new String[] {"<", ">", "="}[random.nextInt(3)]);
    sum(depth);
  }

  private void sum(int depth) {
    term(depth);
    while (budget > 0 && random.nextInt(3) == 0) {
      word(random.nextBoolean() ? "+" : "-");
      term(depth);
    }
  }

  private void term(int depth) {
    part(depth);
    while (budget > 0 && random.nextInt(5) == 0) {
      word(random.nextBoolean() ? "*" : "/");
      part(depth);
    }
  }

  private void part(int depth) {
    budget--;
    int way = random.nextInt(12);
    if (way == 0 && depth < 9) {
      word("[");
      sum(depth + 1);
      word("]");
    } else if (way < 4) {
      word("" + random.nextInt(10));
    } else if (way == 4) {
      word("" + (random.nextInt(3) == 0 ? 1000 : random.nextInt(1001)));
    } else {
      word(WORDS[random.nextInt(WORDS.length)]);
    }
  }
}
