import java.nio.file.Files;
import java.nio.file.Path;
import java.util.List;
import java.util.regex.Matcher;
import java.util.regex.Pattern;

/** Runs the lines of README.md that tell, behind "//", what a call answers. */
public final class ReadmeTest {
  private static final Pattern TOLD =
      Pattern.compile("(int \\w+ = )?(.*);\\s+// (-?\\d+|NONE)\\b.*");

  private final StringBuilder helpers = new StringBuilder();
  private final StringBuilder calls = new StringBuilder();
  private int told;

  public static void main(String[] args) throws Exception {
    ReadmeTest test = new ReadmeTest();
    test.read(Files.readAllLines(Path.of("README.md")));
    Due due = new Due("ReadmeTest");
    due.is("README.md tells answers", test.told > 0 ? 1 : 0, 1);
    test.run(due);
    due.end();
  }

  private void read(List<String> lines) {
    boolean inside = false;
    StringBuilder into = calls;
    for (String line : lines) {
      if (line.startsWith("```")) {
        inside = line.equals("```java");
        into = calls;
      } else if (inside) {
        into = line.startsWith("static ") ? helpers : into;
        into.append(into == calls ? asked(line) : line).append('\n');
      }
    }
  }

  private String asked(String line) {
    Matcher m = TOLD.matcher(line);
    if (!m.matches()) {
      return line;
    }
    told++;
    String call = m.group(2);
    String name = m.group(1) == null ? "answer" + told : m.group(1).split(" ")[1];
    return "int " + name + " = " + call + ";\n"
        + "due.is(\"" + call + "\", " + name + ", " + m.group(3) + ");";
  }

  // What is made of the lines lies beside the class, so that one loader has both.
  private void run(Due due) throws Exception {
    String out = System.getProperty("java.class.path");
    Path source = Path.of(out, "ReadmeCalls.java");
    Files.writeString(source, "final class ReadmeCalls {\n"
        + "private static final int NONE = HandedOn.NONE;\n" + helpers
        + "static void ask(Due due) {\n" + calls + "}\n}\n");
    int failed = new ProcessBuilder("javac", "-cp", out, "-d", out, source.toString())
        .inheritIO().start().waitFor();
    due.is("the lines of README.md compile", failed, 0);
    if (failed == 0) {
      Class.forName("ReadmeCalls").getDeclaredMethod("ask", Due.class).invoke(null, due);
    }
  }
}
