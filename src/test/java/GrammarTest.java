import java.util.ArrayDeque;
import java.util.ArrayList;
import java.util.Deque;
import java.util.LinkedHashSet;
import java.util.List;
import java.util.Set;

/**
 * FAULT by the grammar alone. The document's rules stand here as rules, once for each number of open ones, and a chart
 * (Earley's) says of a row of TOKENS whether it can still become a TEXT: the first TOKEN after which it can't is at FAULT.
 * From some beginnings on all rows that can still become one are gone through, each with every TOKEN that could come next.
 */
public final class GrammarTest {
  private static final int MOST_OPEN = 5;
  private static final String[] TOKENS = {
    "7", "cup", "(", ")", ";", "+", "-", "*", "<", "=", "or", "and", "not", "turns", "misses", "bounds", "x", "12345", "A"};

  /** Each row a rule: what it is of, then what stands in it; E, AND, .. with how many are open. */
  private static final List<String[]> RULES = new ArrayList<>();
  private static int texts = 0, wrong = 0;

  private static void rule(int open, String row) {
    String[] parts = row.split(" ");
    for (int i = 0; i < parts.length; i++) {
      if (parts[i].endsWith("'")) parts[i] = parts[i].replace("'", String.valueOf(open + 1));
      else if (parts[i].matches("E|AND|NOT|SUM|TERM|ONE")) parts[i] += open;
    }
    RULES.add(parts);
  }
  private static void rules() {
    RULES.add("TEXT turns E0 ; misses E0 ; bounds E0 ;".split(" "));
    for (int open = 0; open <= MOST_OPEN; open++) {
      for (String row : new String[] {"E AND", "E E or AND", "AND NOT", "AND AND and NOT", "NOT SUM", "NOT SUM < SUM", "NOT SUM = SUM",
          "SUM TERM", "SUM SUM + TERM", "SUM SUM - TERM", "TERM ONE", "TERM TERM * ONE", "ONE 7", "ONE cup"}) rule(open, row);
      if (open < MOST_OPEN) for (String row : new String[] {"NOT not NOT'", "ONE - ONE'", "ONE ( E' )"}) rule(open, row);
    }
  }

  /** How far a rule has come, and behind which token it began. */
  private record Item(int rule, int dot, int from) {
    boolean ended() { return dot == RULES.get(rule).length - 1; }
    String next() { return ended() ? "" : RULES.get(rule)[dot + 1]; }
    String of() { return RULES.get(rule)[0]; }
    Item on() { return new Item(rule, dot + 1, from); }
  }

  /** What can stand behind the tokens so far; a row of the chart for each of them and one ahead. */
  private static final List<Set<Item>> CHART = new ArrayList<>();

  private static void push(Set<Item> begun) {
    int here = CHART.size();
    Set<Item> all = new LinkedHashSet<>(begun);
    Deque<Item> open = new ArrayDeque<>(begun);
    CHART.add(all);
    while (!open.isEmpty()) {
      Item item = open.poll();
      List<Item> more = new ArrayList<>();
      if (item.ended()) {
        for (Item outer : CHART.get(item.from())) if (outer.next().equals(item.of())) more.add(outer.on());
      } else {
        for (int r = 0; r < RULES.size(); r++) if (RULES.get(r)[0].equals(item.next())) more.add(new Item(r, 0, here));
      }
      for (Item m : more) if (all.add(m)) open.add(m);
    }
  }
  /** Whether a token can stand next; then it does. */
  private static boolean stands(String token) {
    Set<Item> begun = new LinkedHashSet<>();
    for (Item item : CHART.get(CHART.size() - 1)) if (item.next().equals(token)) begun.add(item.on());
    if (begun.isEmpty()) return false;
    push(begun);
    return true;
  }
  private static void pop() { CHART.remove(CHART.size() - 1); }
  private static boolean isText() {
    for (Item item : CHART.get(CHART.size() - 1)) if (item.ended() && item.of().equals("TEXT")) return true;
    return false;
  }

  private static void look(String tape, int want) {
    texts++;
    GroundsReadOut x = new GroundsReadOut();
    for (int i = 0; i < tape.length(); i++) x.feed(tape.charAt(i));
    int got = x.text();
    if (got == want) return;
    wrong++;
    if (wrong < 20) System.out.println("'" + tape + "' answered " + got + ", due is " + want);
  }

  /** All that can come behind what stands on the tape, so many tokens far; what comes behind a fault does not matter. */
  private static void walk(String tape, int far) {
    look(tape, isText() ? 1 : -100 - tape.length());
    for (String token : TOKENS) {
      if (!stands(token)) {
        look(tape + token, -100 - tape.length());
        look(tape + token + " ) A", -100 - tape.length());
      } else {
        if (far > 0) walk(tape + token + " ", far - 1);
        pop();
      }
    }
  }
  private static void walkFrom(String begun, int far) {
    CHART.clear();
    push(Set.of(new Item(0, 0, 0)));
    String tape = "";
    for (String token : begun.split(" ")) {
      if (token.isEmpty()) continue;
      if (!stands(token)) throw new IllegalStateException(begun);
      tape += token + " ";
    }
    walk(tape, far);
  }

  public static void main(String[] args) {
    rules();
    walkFrom("", 6);
    // Four are open: one more may come, and then none.
    for (String four : new String[] {"( ( ( (", "not not not not", "- - - -", "( not ( not", "not ( not (", "( - ( -", "- ( - (",
        "not not - -", "not - ( not", "- - ( (", "( ( not -"}) walkFrom("turns " + four, 3);
    // Those that have ended don't count.
    walkFrom("turns not not 7 and not - - 7 * - 7 + ( ( 7 ) )", 3);
    walkFrom("turns 7 ; misses ( ( ( 7 ) ) )", 3);
    walkFrom("turns 7 ; misses 7 ; bounds not - ( not -", 4);
    walkFrom("turns 7 ; misses 7 ; bounds cup", 4);
    System.out.println(texts + " texts by the grammar, " + wrong + " not as due");
    if (wrong != 0) System.exit(1);
  }
}
