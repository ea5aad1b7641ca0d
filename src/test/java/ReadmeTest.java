import java.io.IOException;
import java.lang.reflect.Method;
import java.lang.reflect.Modifier;
import java.nio.file.Files;
import java.nio.file.Path;
import java.util.List;
import java.util.regex.Matcher;
import java.util.regex.Pattern;
import java.util.stream.Stream;

/** What README.md tells of calls and their answers is so, and it names every call and every test. */
public final class ReadmeTest {
  private static final Pattern NEW = Pattern.compile("GroundsReadOut x = new GroundsReadOut\\(\\);");
  private static final Pattern FEED = Pattern.compile("for \\(char c : \"([^\"]*)\"\\.toCharArray\\(\\)\\) x\\.feed\\(c\\);");
  private static final Pattern CALL = Pattern.compile("x\\.(\\w+)\\(([^)]*)\\); *// (-?\\d+)(:.*)?");
  private static int wrong = 0, calls = 0;

  private static void must(boolean so, String what) {
    if (so) return;
    wrong++;
    System.out.println(what);
  }

  private static int number(String told) {
    return told.startsWith("0b") ? Integer.parseInt(told.substring(2), 2) : Integer.parseInt(told);
  }
  private static long answer(GroundsReadOut x, String name, String told) throws ReflectiveOperationException {
    String[] row = told.isEmpty() ? new String[0] : told.split(", ");
    Class<?>[] types = new Class<?>[row.length];
    Object[] numbers = new Object[row.length];
    for (int i = 0; i < row.length; i++) {
      types[i] = int.class;
      numbers[i] = number(row[i]);
    }
    return ((Number) GroundsReadOut.class.getMethod(name, types).invoke(x, numbers)).longValue();
  }

  private static void examples(List<String> lines) throws ReflectiveOperationException {
    GroundsReadOut x = null;
    boolean java = false;
    for (String line : lines) {
      if (line.startsWith("```")) {
        java = line.equals("```java");
        x = null;
        continue;
      }
      if (!java) continue;
      Matcher feed = FEED.matcher(line), call = CALL.matcher(line);
      if (NEW.matcher(line).matches()) {
        x = new GroundsReadOut();
      } else if (x != null && feed.matches()) {
        for (char c : feed.group(1).toCharArray()) x.feed(c);
      } else if (x != null && call.matches()) {
        calls++;
        long got = answer(x, call.group(1), call.group(2));
        must(got == Long.parseLong(call.group(3)), line + " answered " + got);
      } else {
        must(false, "no call with its answer: " + line);
      }
    }
  }

  private static void names(String page) throws IOException {
    for (Method m : GroundsReadOut.class.getDeclaredMethods()) {
      if (Modifier.isPublic(m.getModifiers())) must(page.contains("`" + m.getName() + "`"), "the page does not name " + m.getName());
    }
    try (Stream<Path> files = Files.list(Path.of("src/test/java"))) {
      for (Path file : files.toList()) {
        String name = file.getFileName().toString().replace(".java", "");
        must(page.contains("`" + name + "`"), "the page does not name " + name);
      }
    }
    must(page.contains(".ci/run"), "the page does not say how the tests are run");
  }

  public static void main(String[] args) throws IOException, ReflectiveOperationException {
    Path page = Path.of("README.md");
    examples(Files.readAllLines(page));
    names(Files.readString(page));
    must(calls > 30, "only " + calls + " calls were found");
    System.out.println(calls + " calls of README.md made, " + wrong + " things not as told");
    if (wrong != 0) System.exit(1);
  }
}
