import java.io.IOException;
import java.lang.reflect.Method;
import java.lang.reflect.Modifier;
import java.nio.file.Files;
import java.util.ArrayList;
import java.util.List;
import java.util.Set;
import java.util.TreeSet;
import java.util.regex.Matcher;
import java.util.regex.Pattern;

/**
 * Goes through the document from its first line: the face and the promises' headings are those of the class, and each
 * other part is one that a test of edges or refusals is of, or stands in the table here with why there is none.
 */
public final class DocumentTest extends Look {
  private static final Pattern FACE = Pattern.compile("public final class GroundsReadOut \\{(.*?) \\}");
  private static final Pattern CALL = Pattern.compile("(int|long) (\\w+)\\(([^)]*)\\)");
  private static final Pattern CONSTANT = Pattern.compile("([A-Z]+) = (-?\\d+)");
  private static final Pattern HEADING = Pattern.compile("## Promise (\\d+): ([^~(]*?) ((?:int |long )?\\w+\\([^)]*\\)) :");
  private static final int PROMISES = 30;

  /** Of each two the first is a part of the document that no test is of, the second says why. */
  private static final String[][] TABLE = {
    {"Grounds for it are read out after: a coffee-house where twelve sayings are said, outright, up to six cups with what lies at the"
        + " bottom, and up to five readers of kinds, who look into a cup for why, and find that some sayings bear the one it was drunk"
        + " to; by a rule of texts how far one turns a cup, what one overlooks, how often one slips; what follows from what, in how many"
        + " steps; the fewest sayings by which all that was said is borne, why one holds, the most of them that don't clash; which reason"
        + " to strike, which cup to read next, who reads alike, the same dog in two cups; what was read, read back: of which kind one is,"
        + " at which hour, by which text; readings that are drawn; all laid back. ==== 1 SAYINGS 0 ..",
        "all of it is said again, more exactly, under Terms and by the promises"},
    {"Quotients are cut toward 0.", "the only quotients are those of lowest terms, which leave nothing to cut"},
    {"SEES (of GROUNDS a set, turns telling v):", "the head of a row whose items each have a test"},
    {"OVERLOOKS (a set, misses telling v):", "likewise"},
    {"STEADY (bounds telling v):", "likewise"},
    {"Of one of READERS and a CUP:", "likewise"},
    {"Ahead of the calls set , cup , reason , unsay , reader , told , sees the interface says: ---- sayings, cups, reasons, readers."
        + " Ahead of the calls feed , text , force the interface says: ---- texts."
        + " Ahead of the calls read , follows , best , why , next , alike , share the interface says: ---- reading out, what follows."
        + " Ahead of the calls tells , film , drawn , chance , image , back , count the interface says: ---- readings that were told."
        + " Ahead of the calls sheet , cell , copy , house , taken the interface says: ---- the host.",
        "headings of the interface; the order of the calls says nothing of what they do"},
    {"## Not promised How the state is held inside the object is free, as are the speed of each call, the text of toString and the"
        + " behaviour of equals and hashCode. Use of one object from several threads at once is not promised to be safe. Nothing is"
        + " promised beyond the answers and state changes described above, and nothing about an object after its 512th call.",
        "what is free can't be broken"},
    {"# GroundsReadOut ## What it is", "headings"},
    {"## The public face java", "a heading, and the mark of what follows it"},
    {"## Terms", "a heading"},
    {"==== 2", "a heading"},
    {"==== 3", "a heading"},
    {"text", "the mark of the parts that are set as they are"},
  };

  /** As "int set(int,int,int)". */
  private static String signature(Matcher call) {
    String types = call.group(3).replaceAll("(int|long) \\w+", "$1").replace(" ", "");
    return call.group(1) + " " + call.group(2) + "(" + types + ")";
  }
  private static String signature(Method m) {
    StringBuilder types = new StringBuilder();
    for (Class<?> p : m.getParameterTypes()) types.append(types.length() == 0 ? "" : ",").append(p.getName());
    return m.getReturnType().getName() + " " + m.getName() + "(" + types + ")";
  }

  /** The calls of the document's face, in their order. */
  private static List<String> face(String doc) throws ReflectiveOperationException {
    List<String> calls = new ArrayList<>();
    Matcher face = FACE.matcher(doc);
    due("a face in the document", face.find() ? 1 : 0, 1);
    Matcher call = CALL.matcher(face.group(1));
    while (call.find()) calls.add(signature(call));
    Set<String> open = new TreeSet<>();
    for (Method m : GroundsReadOut.class.getDeclaredMethods()) if (Modifier.isPublic(m.getModifiers())) open.add(signature(m));
    same("the face", open, new TreeSet<>(calls));
    Matcher constant = CONSTANT.matcher(face.group(1));
    int constants = 0;
    while (constant.find()) {
      constants++;
      Number value = (Number) GroundsReadOut.class.getField(constant.group(1)).get(null);
      due(constant.group(1), value.longValue(), Long.parseLong(constant.group(2)));
    }
    due("constants", constants, GroundsReadOut.class.getFields().length);
    return calls;
  }

  /** Promise 1 is the constructor; each other one is the next call of the face. */
  private static void headings(String doc, List<String> calls) {
    Matcher heading = HEADING.matcher(doc);
    int n = 0;
    while (heading.find()) {
      n++;
      due("the number of " + heading.group(2), Integer.parseInt(heading.group(1)), n);
      Matcher call = CALL.matcher(heading.group(3));
      if (n == 1) {
        same("promise 1", heading.group(3), "GroundsReadOut()");
      } else if (call.matches() && n - 2 < calls.size()) {
        same("promise " + n, signature(call), calls.get(n - 2));
        same("promise " + n, heading.group(2), call.group(2));
      } else {
        due("a call in the heading of promise " + n, 0, 1);
      }
    }
    due("promises", n, PROMISES);
    due("calls", calls.size(), PROMISES - 1);
  }

  /** What no test is of is in the table; and what is in the table is in the document, and no test is of it. */
  private static void parts(String doc) {
    String rest = unsaid(doc);
    rest = FACE.matcher(rest).replaceAll(" ~ ");
    rest = HEADING.matcher(rest).replaceAll(" ~ ");
    for (String[] row : TABLE) {
      due("in the document, of no test: " + row[0], rest.contains(row[0]) ? 1 : 0, 1);
      rest = rest.replace(row[0], " ~ ");
    }
    for (String part : rest.split(String.valueOf(MARK))) same("what no test is of", part.trim(), "");
  }

  public static void main(String[] args) throws IOException, ReflectiveOperationException {
    if (!Files.exists(DOC)) {
      System.out.println("there is no " + DOC);
      System.exit(1);
    }
    EdgesOfTermsTest.main(args);
    EdgesOfReadingTest.main(args);
    EdgesOfPromisesTest.main(args);
    RefusalsTest.main(args);
    String doc = plain(Files.readString(DOC));
    about("the document as a whole");
    headings(doc, face(doc));
    parts(doc);
    end(args);
  }
}
