import java.util.ArrayList;
import java.util.List;
import java.util.Random;

/** Runs of calls by chance (always the same ones), each answered by the class and by the Oracle. */
public final class OracleTest {
  private static final int[] EDGES = {
    Integer.MIN_VALUE, Integer.MIN_VALUE + 1, -100, -14, -2, -1, 0, 1, 2, 3, 4, 5, 6, 7, 9, 10, 11, 12, 13,
    39, 40, 41, 99, 100, 255, 256, 998, 999, 1000, 4095, 4096, 65535, Integer.MAX_VALUE - 1, Integer.MAX_VALUE};
  private static final String[] WORDS = {
    "turns", "misses", "bounds", "or", "and", "not", "grounds", "saying", "number", "hour", "slips", "cup",
    "(", ")", ";", "+", "-", "*", "<", "=", "0", "7", "12", "99", "9999", "10000", " ", "\n", "x", "A", "\t"};

  private final Random chance;
  private final GroundsReadOut real = new GroundsReadOut();
  private final Oracle oracle = new Oracle();
  private final List<String> log = new ArrayList<>();
  private int wrong;
  private int calls;

  private OracleTest(long seed) { chance = new Random(seed); }

  private void due(String call, long got, long want) {
    calls++;
    log.add(call + " -> " + want);
    if (got != want) {
      wrong++;
      System.out.println(call + " answered " + got + ", due is " + want + "; ahead of it: "
          + log.subList(Math.max(0, log.size() - 60), log.size() - 1));
    }
  }

  private int below(int n) { return chance.nextInt(n); }
  /** Mostly of 0 .. n - 1, at times any. */
  private int pick(int n) { return below(25) == 0 ? EDGES[below(EDGES.length)] : below(n); }
  private int set() {
    int a = chance.nextInt(4096);
    // Of each two opposite ones at most one, so that there is peace at times.
    if (below(4) == 0) return a & ~(a >> 6 & 63);
    return below(25) == 0 ? EDGES[below(EDGES.length)] : below(2) == 0 ? a & chance.nextInt(4096) & chance.nextInt(4096) : a;
  }
  private int one() { return pick(Math.max(1, oracle.count(0))); }
  private int cup() { return pick(Math.max(1, oracle.count(1))); }

  private String sum(int depth) {
    switch (below(depth > 3 ? 2 : 9)) {
      case 0: return WORDS[20 + below(5)];
      case 1: return WORDS[6 + below(6)];
      case 2: return sum(depth + 1) + "+" + sum(depth + 1);
      case 3: return sum(depth + 1) + " - " + sum(depth + 1);
      case 4: return sum(depth + 1) + "*" + sum(depth + 1);
      case 5: return "-" + sum(depth + 1);
      case 6: return "(" + phrase(depth + 1) + ")";
      default: return WORDS[6 + below(6)] + "*" + below(5);
    }
  }
  private String phrase(int depth) {
    switch (below(depth > 2 ? 3 : 8)) {
      case 0: return sum(depth + 1) + "<" + sum(depth + 1);
      case 1: return sum(depth + 1) + " = " + sum(depth + 1);
      case 2: return sum(depth + 1);
      case 3: return phrase(depth + 1) + " or " + phrase(depth + 1);
      case 4: return phrase(depth + 1) + " and\n" + phrase(depth + 1);
      case 5: return "not " + phrase(depth + 1);
      default: return sum(depth + 1);
    }
  }
  private String text() {
    String s = "turns " + phrase(1) + ";misses " + phrase(1) + " ;\nbounds " + phrase(1) + ";";
    if (below(3) == 0) {
      int at = below(s.length() + 1);
      int to = Math.min(s.length(), at + below(4));
      s = s.substring(0, at) + (below(2) == 0 ? WORDS[below(WORDS.length)] : "") + s.substring(to);
    } else if (below(12) == 0) {
      StringBuilder b = new StringBuilder("turns ");
      for (int i = below(8); i >= 0; i--) b.append(WORDS[new int[] {5, 12, 16, 6}[below(4)]]).append(' ');
      s = b.append(s.substring(6)).toString();
    }
    return s;
  }

  private void feedText() {
    String s = text();
    if (oracle.count(4) + s.length() > 150 && below(8) != 0) return;
    for (int i = 0; i < s.length() && calls < 500; i++) feed(s.charAt(i));
    call("text()", real.text(), oracle.text());
  }
  private void feed(int letter) { call("feed(" + letter + ")", real.feed(letter), oracle.feed(letter)); }
  private void call(String call, long got, long want) { due(call, got, want); }

  private void step(int heavy) {
    int a, b, c, d, e;
    switch (below(34)) {
      case 0: a = pick(6); b = below(2) == 0 ? one() : cup();
        c = a == 0 || a == 2 ? set() : a == 1 ? pick(1000) : a == 3 ? pick(12) : a == 4 ? pick(10) : pick(100);
        call("set(" + a + "," + b + "," + c + ")", real.set(a, b, c), oracle.set(a, b, c)); break;
      case 1: a = set(); b = pick(12); call("cup(" + a + "," + b + ")", real.cup(a, b), oracle.cup(a, b)); break;
      case 2: case 3: case 4: a = set() & set(); b = pick(12);
        call("reason(" + a + "," + b + ")", real.reason(a, b), oracle.reason(a, b)); break;
      case 5: if (below(3) == 0) call("unsay()", real.unsay(), oracle.unsay()); break;
      case 6: a = pick(6); b = pick(10); call("reader(" + a + "," + b + ")", real.reader(a, b), oracle.reader(a, b)); break;
      case 7: a = pick(10); b = a > 7 ? pick(12) : below(2) == 0 ? one() : cup();
        call("told(" + b + "," + a + ")", real.told(b, a), oracle.told(b, a)); break;
      case 8: case 9: a = one(); b = cup(); c = pick(3);
        call("sees(" + a + "," + b + "," + c + ")", real.sees(a, b, c), oracle.sees(a, b, c)); break;
      case 10: feedText(); break;
      case 11: feed(pick(256)); break;
      case 12: case 13: a = pick(Math.max(1, oracle.count(3))); call("force(" + a + ")", real.force(a), oracle.force(a)); break;
      case 14: case 15: case 16: a = one(); b = cup(); call("read(" + a + "," + b + ")", real.read(a, b), oracle.read(a, b)); break;
      case 17: a = set(); b = pick(3); call("follows(" + a + "," + b + ")", real.follows(a, b), oracle.follows(a, b)); break;
      case 18: if (below(heavy) == 0) { a = pick(6); call("best(" + a + ")", real.best(a), oracle.best(a)); } break;
      case 19: if (below(heavy) == 0) { a = pick(12); b = pick(2); call("why(" + a + "," + b + ")", real.why(a, b), oracle.why(a, b)); } break;
      case 20: a = one(); b = pick(3); call("next(" + a + "," + b + ")", real.next(a, b), oracle.next(a, b)); break;
      case 21: a = one(); b = one(); call("alike(" + a + "," + b + ")", real.alike(a, b), oracle.alike(a, b)); break;
      case 22: a = pick(2); call("share(" + a + ")", real.share(a), oracle.share(a)); break;
      case 23: case 24: a = pick(4); b = one(); c = pick(7);
        call("tells(" + a + "," + b + "," + c + ")", real.tells(a, b, c), oracle.tells(a, b, c)); break;
      case 25: a = pick(4); b = one(); call("film(" + a + "," + b + ")", real.film(a, b), oracle.film(a, b)); break;
      case 26: a = chance.nextInt(); b = pick(13); call("drawn(" + a + "," + b + ")", real.drawn(a, b), oracle.drawn(a, b)); break;
      case 27: a = below(9) == 0 ? Integer.MAX_VALUE - 2 : chance.nextInt(); b = 1 + pick(10); c = pick(13); d = pick(2);
        call("chance(" + a + "," + b + "," + c + "," + d + ")", real.chance(a, b, c, d), oracle.chance(a, b, c, d)); break;
      case 28: if (below(3) == 0) call("image()", real.image(), oracle.image());
        if (below(5) == 0) call("back()", real.back(), oracle.back()); break;
      case 29: a = pick(6); call("count(" + a + ")", real.count(a), oracle.count(a)); break;
      case 30: if (below(3) == 0) { a = pick(4); b = pick(4) - 1; c = pick(10);
        call("sheet(" + a + "," + b + "," + c + ")", real.sheet(a, b, c), oracle.sheet(a, b, c)); } break;
      case 31: a = pick(4); b = pick(7); c = below(2) == 0 ? set() : pick(10);
        call("cell(" + a + "," + b + "," + c + ")", real.cell(a, b, c), oracle.cell(a, b, c)); break;
      case 32: a = pick(4); b = pick(5); c = pick(4); d = pick(5); e = pick(5);
        call("copy(" + a + "," + b + "," + c + "," + d + "," + e + ")", real.copy(a, b, c, d, e), oracle.copy(a, b, c, d, e)); break;
      default: a = one(); b = pick(6); call("taken(" + a + "," + b + ")", real.taken(a, b), oracle.taken(a, b));
        if (below(2) == 0) { a = pick(4); b = pick(3); c = pick(4); d = pick(6);
          call("house(" + a + "," + b + "," + c + "," + d + ")", real.house(a, b, c, d), oracle.house(a, b, c, d)); }
    }
  }

  public static void main(String[] args) {
    int runs = args.length > 0 ? Integer.parseInt(args[0]) : 400;
    long from = args.length > 1 ? Long.parseLong(args[1]) : 0;
    int wrong = 0;
    long calls = 0;
    for (int run = 0; run < runs && wrong < 20; run++) {
      OracleTest t = new OracleTest(from + run);
      while (t.calls < 500) t.step(6);
      wrong += t.wrong;
      calls += t.calls;
    }
    System.out.println(calls + " calls by chance, " + wrong + " not as the oracle answers");
    if (wrong != 0) System.exit(1);
  }
}
