import java.io.IOException;
import java.nio.file.Files;
import java.nio.file.Path;
import java.util.Arrays;
import java.util.LinkedHashSet;
import java.util.Set;

/**
 * What the tests of edges share. Each test first says the document's words that it is of; these are looked up in the
 * document, so that no test is of words that aren't there.
 */
class Look {
  static final int NONE = -1, BAD = -2, STATE = -3, FULL = -4;
  static final int NOTHING = -11, OUTSIDE = -12, OTHER = -13, BELOW = -14;
  static final long NO = -4611686018427387904L;
  static final int MIN = Integer.MIN_VALUE, MAX = Integer.MAX_VALUE;
  static final int READER = 0, CLERK = 1, DREAMER = 2, WIDOW = 3, PROPHET = 4, ARAB = 5;
  /** The largest and the least int, as a text can tell them. */
  static final String MOST = "9999*9999*21+9999*4790+8416", LEAST = "-9999*9999*21-9999*4790-8417";

  static final Path DOC = Path.of("../shared/DOC.md");
  static final char MARK = '~';
  private static final Set<String> quotes = new LinkedHashSet<>();
  private static String words = "";
  private static int wrong = 0, looked = 0;

  static void says(String quote) {
    about(quote);
    quotes.add(quote);
  }
  /** What the next answers are of, where that is no sentence of the document. */
  static void about(String what) { words = what; }

  static void due(String call, long got, long want) {
    looked++;
    if (got == want) return;
    wrong++;
    System.out.println("\"" + words + "\": " + call + " answered " + got + ", due is " + want);
  }
  static void dues(String call, long want, long... got) {
    for (int i = 0; i < got.length; i++) due(call + " #" + i, got[i], want);
  }
  static void same(String call, Object got, Object want) {
    looked++;
    if (got.equals(want)) return;
    wrong++;
    System.out.println("\"" + words + "\": " + call + " leaves " + got + ", due is " + want);
  }

  static int bits(int... sayings) {
    int b = 0;
    for (int k : sayings) b |= 1 << k;
    return b;
  }
  static int feedAll(GroundsReadOut x, String text) {
    int last = 0;
    for (int i = 0; i < text.length(); i++) last = x.feed(text.charAt(i));
    return last;
  }
  static int write(GroundsReadOut x, String text) {
    feedAll(x, text);
    return x.text();
  }
  /** A new object whose RULE is this. */
  static GroundsReadOut ruled(String turns, String misses, String bounds) {
    GroundsReadOut x = new GroundsReadOut();
    String text = "turns " + turns + ";misses " + misses + ";bounds " + bounds + ";";
    due(text, write(x, text), 1);
    due("force(1)", x.force(1), 0);
    return x;
  }
  /** What text() answers of a new object's tape. */
  static int answer(String text) { return write(new GroundsReadOut(), text); }
  static void fault(String text, int place) { due("'" + text + "'", answer(text), -100 - place); }
  static void fine(String text) { due("'" + text + "'", answer(text), 1); }
  /** By how much (0 .. 11) a READER of NUMBER 0 turns CUP 0 (GROUNDS 0 alone, TO 0) at HOUR 0. */
  static void turns(String e, int want) {
    GroundsReadOut x = ruled(e, "0", "9");
    x.cup(1, 0);
    x.reader(READER, 0);
    due("turns " + e, x.sees(0, 0, 0), 1 << Math.floorMod(want, 12));
  }

  static String plain(String text) { return text.replaceAll("[\\s`]+", " "); }

  /** The document, with a mark in the place of all words that the tests which ran in this process said they are of. */
  static String unsaid(String document) {
    String doc = plain(document);
    boolean[] said = new boolean[doc.length()];
    for (String quote : quotes) {
      String part = plain(quote);
      int at = doc.indexOf(part);
      if (at < 0) {
        wrong++;
        System.out.println("not of the document: " + quote);
      }
      for (; at >= 0; at = doc.indexOf(part, at + 1)) Arrays.fill(said, at, at + part.length(), true);
    }
    StringBuilder rest = new StringBuilder();
    for (int i = 0; i < said.length; i++) rest.append(said[i] ? MARK : doc.charAt(i));
    return rest.toString().replaceAll(MARK + "[" + MARK + " ]*", " " + MARK + " ");
  }

  /** Ends the test; with an argument it shows what of the document none of its quotes is of. */
  static void end(String[] args) throws IOException {
    if (Files.exists(DOC)) {
      String rest = unsaid(Files.readString(DOC));
      if (args.length > 0) System.out.println(rest);
    }
    System.out.println(quotes.size() + " sentences, " + looked + " answers looked at, " + wrong + " not as due");
    if (wrong != 0) System.exit(1);
  }
}
