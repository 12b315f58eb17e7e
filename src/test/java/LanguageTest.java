import java.lang.reflect.Constructor;
import java.lang.reflect.Field;
import java.lang.reflect.Method;
import java.lang.reflect.Modifier;
import java.nio.file.Files;
import java.nio.file.Path;
import java.util.ArrayList;
import java.util.List;
import java.util.Set;
import java.util.TreeSet;
import java.util.regex.Matcher;
import java.util.regex.Pattern;

/** Some rules of LANGUAGE.md that can be seen from the class and its text. */
public final class LanguageTest {
  private static final Due DUE = new Due("LanguageTest");
  private static final String FACE = "one/3 put/3 meet/3 art/2 rule/3 know/3 of/2 feed/5 end/1 "
      + "row/1 slack/0 law/0 fault/0 force/1 handed/4 show/4 wrong/2 clear/0 behind/3 has/3 "
      + "spent/2 why/1 judge/1 soonest/1 first/2 fewest/2 without/2 left/1 start/2 "
      + "best/1 alike/4 well/4 ring/2 "
      + "order/1 talk/2 heard/1 talks/1 week/2 drawn/2 image/1 back/1 count/1 status/0";

  public static void main(String[] args) throws Exception {
    face();
    members(HandedOn.class);
    for (Class<?> c : HandedOn.class.getDeclaredClasses()) {
      inside(c);
      members(c);
    }
    DUE.is("at most twelve classes", HandedOn.class.getDeclaredClasses().length < 12 ? 0 : 1, 0);
    String text = Files.readString(Path.of("src/main/java/HandedOn.java"));
    words(code(text));
    lengths(text);
    DUE.end();
  }

  private static void face() throws Exception {
    Set<String> due = new TreeSet<>(List.of(FACE.split(" ")));
    Set<String> got = new TreeSet<>();
    for (Method m : HandedOn.class.getDeclaredMethods()) {
      if (!Modifier.isPrivate(m.getModifiers()) && !m.isSynthetic()) {
        got.add(m.getName() + "/" + m.getParameterCount());
        DUE.is(m.getName() + " is public, answers int",
            Modifier.isPublic(m.getModifiers()) && !Modifier.isStatic(m.getModifiers())
            && m.getReturnType() == int.class ? 1 : 0, 1);
      }
    }
    DUE.is("the face " + got, got.equals(due) ? 1 : 0, 1);
    DUE.is("44 promises, one of them the constructor", got.size(), 43);
    DUE.is("final", Modifier.isFinal(HandedOn.class.getModifiers()) ? 1 : 0, 1);
    Constructor<?>[] made = HandedOn.class.getDeclaredConstructors();
    DUE.is("one constructor", made.length, 1);
    DUE.is("it is public", Modifier.isPublic(made[0].getModifiers()) ? 1 : 0, 1);
    DUE.is("NONE", HandedOn.NONE, -1);
    for (Field f : HandedOn.class.getDeclaredFields()) {
      boolean seen = !Modifier.isPrivate(f.getModifiers());
      DUE.is("seen from outside: " + f.getName(), seen == f.getName().equals("NONE") ? 1 : 0, 1);
    }
    for (Method m : HandedOn.class.getDeclaredMethods()) {
      boolean same = Modifier.isPrivate(m.getModifiers()) && FACE.contains(" " + m.getName() + "/");
      DUE.is("a private name: " + m.getName(), same ? 1 : 0, 0);
    }
  }

  private static void inside(Class<?> c) {
    DUE.is(c + " is static", Modifier.isStatic(c.getModifiers()) ? 1 : 0, 1);
    DUE.is(c + " has no classes", c.getDeclaredClasses().length, 0);
    for (Method m : c.getDeclaredMethods()) {
      DUE.is("a name of the face: " + m, FACE.contains(" " + m.getName() + "/") ? 1 : 0, 0);
    }
  }

  private static void members(Class<?> c) {
    int fields = 0;
    for (Field f : c.getDeclaredFields()) {
      if (Modifier.isStatic(f.getModifiers())) {
        DUE.is(f + " is final", Modifier.isFinal(f.getModifiers()) ? 1 : 0, 1);
      } else {
        fields++;
      }
    }
    DUE.is(c + " has " + fields + " fields", fields <= 20 ? 1 : 0, 1);
    for (Method m : c.getDeclaredMethods()) {
      DUE.is(m + " takes seven at most", m.getParameterCount() <= 7 ? 1 : 0, 1);
    }
  }

  /** The text without comments and what stands in quotes. */
  private static String code(String text) {
    return text.replaceAll("(?s)/\\*.*?\\*/", "").replaceAll("//[^\n]*", "")
        .replaceAll("\"(\\\\.|[^\"\\\\])*\"", "\"\"").replaceAll("'(\\\\.|[^'\\\\])'", "' '");
  }

  private static void words(String code) {
    String[] never = {"throw", "throws", "try", "catch", "finally", "synchronized", "assert",
        "instanceof", "package", "volatile", "native", "var", "yield", "protected", "equals",
        "hashCode", "toString", "HashMap", "Random", "Thread", "Exact", "lambda", "Object"};
    for (String word : never) {
      Matcher m = Pattern.compile("\\b" + word + "\\b").matcher(code);
      DUE.is("the word " + word, m.find() ? 1 : 0, 0);
    }
    for (String sign : new String[] {"->", "::", "@", "System.out", "\" +", "+ \"", "[][]"}) {
      DUE.is("the sign " + sign, code.contains(sign) ? 1 : 0, 0);
    }
    Matcher imports = Pattern.compile("import ([^;]+);").matcher(code);
    while (imports.find()) {
      DUE.is("import " + imports.group(1), imports.group(1).equals("java.util.Arrays") ? 1 : 0, 1);
    }
    Matcher calls = Pattern.compile("\\b(System|Arrays|Math|Integer|Long)\\.(\\w+)").matcher(code);
    Set<String> good = Set.of("System.arraycopy", "Arrays.copyOf", "Arrays.fill", "Math.max",
        "Math.min", "Integer.bitCount", "Integer.numberOfTrailingZeros");
    while (calls.find()) {
      DUE.is("the library's " + calls.group(), good.contains(calls.group()) ? 1 : 0, 1);
    }
  }

  private static void lengths(String text) {
    List<String> lines = new ArrayList<>(List.of(text.split("\n")));
    int from = -1;
    for (int i = 0; i < lines.size(); i++) {
      String line = lines.get(i);
      DUE.is("line " + (i + 1) + " is short", line.length() <= 100 ? 1 : 0, 1);
      if (line.matches(" {2,4}(public |private |static |final )*[\\w\\[\\]]+ ?\\w*\\(.*")) {
        from = i;
      }
      if (from >= 0 && line.matches(" {2,4}\\}")) {
        DUE.is("lines of " + lines.get(from).trim(), i - from <= 60 ? 1 : 0, 1);
        from = -1;
      }
    }
  }
}
