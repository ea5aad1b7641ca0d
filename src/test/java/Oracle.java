import java.util.ArrayList;
import java.util.Arrays;
import java.util.List;
import java.util.TreeSet;
import java.util.function.BiFunction;
import java.util.function.Predicate;

/**
 * The document told a second time, slowly and in another manner (sets as trees, kinds as classes,
 * texts as functions, every set of 4096 looked at), so that a slip in the class shows as a difference.
 */
final class Oracle {
  static final long NO = -(1L << 62);

  // ---- kinds

  static class Reader {
    final int number, slips;
    Reader(int number, int slips) { this.number = number; this.slips = slips; }
    TreeSet<Integer> sees(TreeSet<Integer> grounds, int v) { return map(grounds, k -> ((k + v) % 12 + 12) % 12); }
    TreeSet<Integer> overlooks(int v, int hour) { return of(((v % 12) + 12) % 12); }
    boolean steady(int v) { return slips < v; }
  }
  static class Clerk extends Reader {
    Clerk(int number, int slips) { super(number, slips); }
    @Override TreeSet<Integer> sees(TreeSet<Integer> grounds, int v) { return map(super.sees(grounds, v), k -> 11 - k); }
    @Override TreeSet<Integer> overlooks(int v, int hour) { return of(); }
    @Override boolean steady(int v) { return true; }
  }
  static class Dreamer extends Reader {
    Dreamer(int number, int slips) { super(number, slips); }
    @Override TreeSet<Integer> sees(TreeSet<Integer> grounds, int v) {
      TreeSet<Integer> seen = super.sees(grounds, v);
      if (!seen.remove(number)) seen.add(number);
      return seen;
    }
    @Override TreeSet<Integer> overlooks(int v, int hour) {
      TreeSet<Integer> all = super.overlooks(v, hour);
      for (int k = all.first(); k < 12; k++) all.add(k);
      return all;
    }
  }
  static final class Widow extends Clerk {
    Widow(int number, int slips) { super(number, slips); }
    @Override TreeSet<Integer> sees(TreeSet<Integer> grounds, int v) {
      TreeSet<Integer> rest = new TreeSet<>(grounds);
      rest.pollFirst();
      return super.sees(rest, v);
    }
    @Override TreeSet<Integer> overlooks(int v, int hour) { return of(number); }
  }
  static final class Prophet extends Dreamer {
    Prophet(int number, int slips) { super(number, slips); }
    @Override TreeSet<Integer> sees(TreeSet<Integer> grounds, int v) {
      TreeSet<Integer> others = setOf(4095);
      others.removeAll(grounds);
      return super.sees(others, v);
    }
    @Override TreeSet<Integer> overlooks(int v, int hour) { return hour % 2 != 0 ? super.overlooks(v, hour) : of(); }
    @Override boolean steady(int v) { return slips < 2 * v; }
  }
  static final class Arab extends Reader {
    Arab(int number, int slips) { super(number, slips); }
    @Override TreeSet<Integer> sees(TreeSet<Integer> grounds, int v) { return new TreeSet<>(grounds); }
    @Override TreeSet<Integer> overlooks(int v, int hour) { return of(); }
    @Override boolean steady(int v) { return true; }
  }

  static Reader make(int kind, int number, int slips) {
    switch (kind) {
      case 0: return new Reader(number, slips);
      case 1: return new Clerk(number, slips);
      case 2: return new Dreamer(number, slips);
      case 3: return new Widow(number, slips);
      case 4: return new Prophet(number, slips);
      default: return new Arab(number, slips);
    }
  }
  static final List<Class<? extends Reader>> KINDS =
      List.of(Reader.class, Clerk.class, Dreamer.class, Widow.class, Prophet.class, Arab.class);

  static TreeSet<Integer> of(Integer... k) { return new TreeSet<>(Arrays.asList(k)); }
  static TreeSet<Integer> setOf(int bits) {
    TreeSet<Integer> s = new TreeSet<>();
    for (int k = 0; k < 12; k++) if ((bits & 1 << k) != 0) s.add(k);
    return s;
  }
  static int bits(TreeSet<Integer> s) { int b = 0; for (int k : s) b += 1 << k; return b; }
  static TreeSet<Integer> map(TreeSet<Integer> s, java.util.function.IntUnaryOperator f) {
    TreeSet<Integer> t = new TreeSet<>();
    for (int k : s) t.add(f.applyAsInt(k));
    return t;
  }

  // ---- texts

  interface Fun { int of(int[] names); }
  static final class Fault extends RuntimeException {
    private static final long serialVersionUID = 1L;
    final int place;
    Fault(int place) { this.place = place; }
  }
  static final List<String> NAMES = List.of("grounds", "saying", "number", "hour", "slips", "cup");
  static final List<String> KEYS = List.of("turns", "misses", "bounds", "or", "and", "not");

  /** Looks at the next token only when it is asked for, straight on the bytes. */
  static final class Parser {
    final String s; int at, open;
    Parser(String s) { this.s = s; }
    String peek() {
      while (at < s.length() && (s.charAt(at) == ' ' || s.charAt(at) == '\n')) at++;
      if (at == s.length()) return "";
      int e = at;
      char c = s.charAt(at);
      if (c >= 'a' && c <= 'z') {
        while (e < s.length() && s.charAt(e) >= 'a' && s.charAt(e) <= 'z') e++;
        String w = s.substring(at, e);
        if (!NAMES.contains(w) && !KEYS.contains(w)) throw new Fault(at);
        return w;
      }
      if (c >= '0' && c <= '9') {
        while (e < s.length() && s.charAt(e) >= '0' && s.charAt(e) <= '9') e++;
        if (e - at > 4) throw new Fault(at);
        return s.substring(at, e);
      }
      if ("();+-*<=".indexOf(c) < 0) throw new Fault(at);
      return String.valueOf(c);
    }
    String take() { String t = peek(); at += t.length(); return t; }
    boolean takeIf(String t) { if (!peek().equals(t)) return false; take(); return true; }
    void must(String t) { if (!takeIf(t)) throw new Fault(at); }
    void enter(int place) { if (open == 5) throw new Fault(place); open++; }
    Fun[] text() {
      Fun[] f = new Fun[3];
      for (int i = 0; i < 3; i++) { must(KEYS.get(i)); f[i] = e(); must(";"); }
      must("");
      return f;
    }
    Fun e() {
      Fun a = and();
      while (takeIf("or")) { Fun l = a, r = and(); a = n -> l.of(n) != 0 | r.of(n) != 0 ? 1 : 0; }
      return a;
    }
    Fun and() {
      Fun a = not();
      while (takeIf("and")) { Fun l = a, r = not(); a = n -> l.of(n) != 0 & r.of(n) != 0 ? 1 : 0; }
      return a;
    }
    Fun not() {
      if (peek().equals("not")) {
        enter(at);
        take();
        Fun a = not();
        open--;
        return n -> a.of(n) == 0 ? 1 : 0;
      }
      Fun a = sum();
      if (takeIf("<")) { Fun b = sum(); return n -> a.of(n) < b.of(n) ? 1 : 0; }
      if (takeIf("=")) { Fun b = sum(); return n -> a.of(n) == b.of(n) ? 1 : 0; }
      return a;
    }
    Fun sum() {
      Fun a = term();
      while (true) {
        if (takeIf("+")) { Fun l = a, r = term(); a = n -> l.of(n) + r.of(n); }
        else if (takeIf("-")) { Fun l = a, r = term(); a = n -> l.of(n) - r.of(n); }
        else return a;
      }
    }
    Fun term() {
      Fun a = one();
      while (takeIf("*")) { Fun l = a, r = one(); a = n -> l.of(n) * r.of(n); }
      return a;
    }
    Fun one() {
      String t = peek();
      if (NAMES.contains(t)) { take(); int i = NAMES.indexOf(t); return n -> n[i]; }
      if (!t.isEmpty() && Character.isDigit(t.charAt(0))) { take(); int v = Integer.parseInt(t); return n -> v; }
      if (t.equals("-")) {
        enter(at);
        take();
        Fun a = one();
        open--;
        return n -> -a.of(n);
      }
      if (t.equals("(")) {
        enter(at);
        take();
        Fun a = e();
        must(")");
        open--;
        return a;
      }
      throw new Fault(at);
    }
  }

  // ---- the house

  static final class House {
    int said, hour, rule;
    List<int[]> cups = new ArrayList<>(), reasons = new ArrayList<>(), readers = new ArrayList<>();
    House like() {
      House h = new House();
      h.said = said; h.hour = hour; h.rule = rule;
      for (int[] c : cups) h.cups.add(c.clone());
      for (int[] c : reasons) h.reasons.add(c.clone());
      for (int[] c : readers) h.readers.add(c.clone());
      return h;
    }
  }

  House now = new House(), image = null;
  final List<Fun[]> texts = new ArrayList<>();
  final StringBuilder tape = new StringBuilder();
  final Object[] sheets = new Object[4];

  Oracle() { texts.add(new Parser("turns 0 ; misses saying ; bounds 9 ;").text()); }

  static boolean in(int v, int a, int b) { return a <= v && v <= b; }
  boolean isOne(int one) { return in(one, 0, now.readers.size() - 1); }
  boolean isCup(int cup) { return in(cup, 0, now.cups.size() - 1); }

  static Reader reader(House h, int one) { int[] r = h.readers.get(one); return make(r[0], r[1], r[2]); }
  int tell(House h, int part, int one, int cup) {
    int[] r = h.readers.get(one), c = part == 2 ? new int[] {0, 0} : h.cups.get(cup);
    int v = texts.get(h.rule)[part].of(
        new int[] {setOf(c[0]).size(), c[1], r[1], h.hour, r[2], part == 2 ? 0 : cup});
    int least = part == 2 ? 0 : -99;
    return v < least ? least : v > 99 ? 99 : v;
  }
  boolean steady(House h, int one) { return reader(h, one).steady(tell(h, 2, one, -1)); }
  TreeSet<Integer> reads(House h, int one, int cup) {
    int[] c = h.cups.get(cup);
    TreeSet<Integer> s = reader(h, one).sees(setOf(c[0]), tell(h, 0, one, cup));
    s.removeAll(reader(h, one).overlooks(tell(h, 1, one, cup), h.hour));
    s.remove(c[1]);
    return s;
  }
  int readOut(House h, int one, int cup) {
    TreeSet<Integer> s = reads(h, one, cup);
    h.reasons.add(new int[] {bits(s), h.cups.get(cup)[1]});
    if (s.isEmpty() && h.readers.get(one)[2] < 99) h.readers.get(one)[2]++;
    h.hour++;
    return bits(s);
  }

  /** {what follows, steps}. */
  static int[] closure(int set, List<int[]> reasons) {
    TreeSet<Integer> all = setOf(set);
    int steps = 0;
    while (true) {
      TreeSet<Integer> more = new TreeSet<>(all);
      for (int[] r : reasons) if (all.containsAll(setOf(r[0]))) more.add(r[1]);
      if (more.equals(all)) return new int[] {bits(all), steps};
      all = more;
      steps++;
    }
  }
  static boolean clashes(int set, List<int[]> reasons) {
    TreeSet<Integer> all = setOf(closure(set, reasons)[0]);
    for (int k = 0; k < 6; k++) if (all.contains(k) && all.contains(k + 6)) return true;
    return false;
  }
  static int size(int set) { return set < 0 ? -1 : setOf(set).size(); }
  /** Of the sets that fit the one of fewest (or most); of like ones the least. */
  static int pick(Predicate<Integer> fits, boolean most) {
    int best = -1;
    for (int set = 4095; set >= 0; set--) {
      if (!fits.test(set)) continue;
      int d = best < 0 ? 0 : size(set) - size(best);
      if (best < 0 || (most ? d >= 0 : d <= 0)) best = set;
    }
    return best;
  }
  int peace(List<int[]> reasons) { return pick(s -> (s | now.said) == now.said && !clashes(s, reasons), true); }
  static List<int[]> without(List<int[]> l, int i) { List<int[]> m = new ArrayList<>(l); m.remove(i); return m; }
  static int followers(House h) { return size(closure(h.said, h.reasons)[0]); }

  // ---- the face

  private int note(int what, int of, Integer v) {
    int was;
    if (what == 0) { if (v != null && !in(v, 0, 4095)) return -2; was = now.said; if (v != null) now.said = v; return was; }
    if (what == 1) { if (v != null && !in(v, 0, 999)) return -2; was = now.hour; if (v != null) now.hour = v; return was; }
    List<int[]> row = what <= 3 ? now.cups : now.readers;
    if (!in(of, 0, row.size() - 1)) return -2;
    int[] most = {4095, 11, 9, 99};
    if (v != null && !in(v, 0, most[what - 2])) return -2;
    int at = what <= 3 ? what - 2 : what - 3;
    was = row.get(of)[at];
    if (v != null) row.get(of)[at] = v;
    return was;
  }
  int set(int what, int of, int v) { return in(what, 0, 5) ? note(what, of, v) : -2; }
  int cup(int grounds, int to) {
    if (!in(grounds, 0, 4095) || !in(to, 0, 11)) return -2;
    if (now.cups.size() == 6) return -4;
    now.cups.add(new int[] {grounds, to});
    return now.cups.size() - 1;
  }
  int reason(int set, int saying) {
    if (!in(set, 0, 4095) || !in(saying, 0, 11) || setOf(set).contains(saying)) return -2;
    if (now.reasons.size() == 12) return -4;
    now.reasons.add(new int[] {set, saying});
    return now.reasons.size() - 1;
  }
  int unsay() {
    if (now.reasons.isEmpty()) return -3;
    now.reasons.remove(now.reasons.size() - 1);
    return now.reasons.size();
  }
  int reader(int kind, int number) {
    if (!in(kind, 0, 5) || !in(number, 0, 9)) return -2;
    if (now.readers.size() == 5) return -4;
    now.readers.add(new int[] {kind, number, 0});
    return now.readers.size() - 1;
  }
  int told(int of, int what) {
    if (in(what, 0, 5)) return note(what, of, null);
    if (what == 6) return isOne(of) ? now.readers.get(of)[0] : -2;
    if (what == 7) return isOne(of) ? (steady(now, of) ? 1 : 0) : -2;
    if (what == 8 || what == 9) return in(of, 0, now.reasons.size() - 1) ? now.reasons.get(of)[what - 8] : -2;
    return -2;
  }
  int sees(int one, int cup, int what) {
    if (!isOne(one) || !isCup(cup)) return -2;
    if (what == 0) return bits(reader(now, one).sees(setOf(now.cups.get(cup)[0]), tell(now, 0, one, cup)));
    if (what == 1) return bits(reader(now, one).overlooks(tell(now, 1, one, cup), now.hour));
    return what == 2 ? bits(reads(now, one, cup)) : -2;
  }
  int feed(int letter) {
    if (!in(letter, 0, 255)) return -2;
    if (tape.length() == 160) return -4;
    tape.append((char) letter);
    return tape.length();
  }
  int text() {
    if (texts.size() == 6) return -4;
    String s = tape.toString();
    tape.setLength(0);
    try {
      texts.add(new Parser(s).text());
      return texts.size() - 1;
    } catch (Fault f) {
      return -100 - f.place;
    }
  }
  int force(int text) {
    if (!in(text, 0, texts.size() - 1)) return -2;
    int was = now.rule;
    now.rule = text;
    return was;
  }
  int read(int one, int cup) {
    if (!isOne(one) || !isCup(cup)) return -2;
    if (!steady(now, one) || now.hour == 999) return -3;
    if (now.reasons.size() == 12) return -4;
    return readOut(now, one, cup);
  }
  int follows(int set, int what) {
    if (!in(set, 0, 4095) || !in(what, 0, 2)) return -2;
    return what == 2 ? (clashes(set, now.reasons) ? 1 : 0) : closure(set, now.reasons)[what];
  }
  int best(int what) {
    if (!in(what, 0, 5)) return -2;
    if (what < 2) {
      int base = pick(s -> (s | now.said) == now.said
          && (closure(s, now.reasons)[0] & now.said) == now.said, false);
      return what == 0 ? base : size(base);
    }
    if (what < 4) { int p = peace(now.reasons); return what == 2 ? p : size(p); }
    int strike = -1, most = -9, vain = 0;
    for (int i = 0; i < now.reasons.size(); i++) {
      List<int[]> rest = without(now.reasons, i);
      int[] r = now.reasons.get(i);
      if (what == 5) { if ((closure(r[0], rest)[0] >> r[1] & 1) == 1) vain += 1 << i; continue; }
      int n = size(peace(rest));
      if (n > most) { most = n; strike = i; }
    }
    return what == 4 ? strike : vain;
  }
  int why(int saying, int what) {
    if (!in(saying, 0, 11) || !in(what, 0, 1)) return -2;
    int w = pick(s -> (s >> saying & 1) == 0 && (closure(s, now.reasons)[0] >> saying & 1) == 1, false);
    return what == 0 ? w : size(w);
  }
  int next(int one, int what) {
    if (!isOne(one) || !in(what, 0, 2)) return -2;
    int cups = now.cups.size();
    if (what == 2) {
      int dogs = 0;
      for (int a = 0; a < cups; a++) for (int b = 0; b < a; b++) if (reads(now, one, a).equals(reads(now, one, b))) dogs++;
      return dogs;
    }
    int cup = -1, most = -1;
    for (int c = 0; c < cups && now.reasons.size() < 12; c++) {
      House h = now.like();
      h.reasons.add(new int[] {bits(reads(h, one, c)), h.cups.get(c)[1]});
      if (followers(h) > most) { most = followers(h); cup = c; }
    }
    return what == 0 ? cup : cup < 0 ? followers(now) : most;
  }
  int alike(int one, int other) {
    if (!isOne(one) || !isOne(other) || one == other) return -2;
    int b = 0;
    for (int c = 0; c < now.cups.size(); c++) if (reads(now, one, c).equals(reads(now, other, c))) b += 1 << c;
    return b;
  }
  static long lowest(int a, int b, int part) {
    int x = a, y = b;
    while (y != 0) { int t = x % y; x = y; y = t; }
    return (part == 0 ? a : b) / x;
  }
  long share(int part) { return in(part, 0, 1) ? lowest(followers(now), 12, part) : NO; }

  private static int length(Object s) { return java.lang.reflect.Array.getLength(s); }
  private int first(House h, Object sheet, int one) {
    for (int i = 0; i < length(sheet); i++)
      if (java.lang.reflect.Array.getInt(sheet, i) != bits(reads(h, one, i))) return i;
    return -1;
  }
  int tells(int sheet, int one, int what) {
    if (!in(sheet, 0, 3) || !isOne(one) || !in(what, 0, 6)) return -2;
    Object s = sheets[sheet];
    if (s == null) return -11;
    if (length(s) > now.cups.size()) return -2;
    if (what == 0) return first(now, s, one);
    int[] many = {6, 10, 100, 100, texts.size(), now.readers.size()};
    BiFunction<House, Integer, Integer> change = (h, v) -> {
      if (what == 1) h.readers.get(one)[0] = v;
      if (what == 2) h.readers.get(one)[1] = v;
      if (what == 3 || what == 4) h.hour = v;
      if (what == 5) h.rule = v;
      return what == 6 ? v : one;
    };
    int bits = 0, n = 0, least = -1;
    for (int v = 0; v < many[what - 1]; v++) {
      House h = now.like();
      int who = change.apply(h, v);
      if (first(h, s, who) >= 0) continue;
      n++;
      if (least < 0) least = v;
      if (v < 12) bits |= 1 << v;
    }
    return what == 3 ? n : what == 4 ? least : bits;
  }
  int film(int sheet, int one) {
    if (!in(sheet, 0, 3) || !isOne(one)) return -2;
    short[] s = new short[now.cups.size()];
    for (int i = 0; i < s.length; i++) s[i] = (short) bits(reads(now, one, i));
    sheets[sheet] = s;
    return s.length;
  }
  int drawn(int seed, int n) {
    if (!in(n, 0, 12)) return -2;
    House h = now.like();
    int last = seed;
    while (n-- > 0) {
      if (h.reasons.size() == 12) break;
      last = last * 1103515245 + 12345;
      int one = (last >>> 9) & 7;
      last = last * 1103515245 + 12345;
      int cup = (last >>> 9) & 7;
      if (one < h.readers.size() && cup < h.cups.size() && steady(h, one)) readOut(h, one, cup);
    }
    return followers(h);
  }
  long chance(int seed, int m, int k, int part) {
    if (!in(m, 1, 10) || !in(k, 0, 12) || !in(part, 0, 1)) return NO;
    int n = 0;
    for (int i = 0; i < m; i++) if (drawn(seed + i, 6) >= k) n++;
    return lowest(n, m, part);
  }
  int image() { image = now.like(); return now.readers.size(); }
  int back() {
    if (image == null) return -3;
    now = image.like();
    return now.readers.size();
  }
  int count(int what) {
    switch (what) {
      case 0: return now.readers.size();
      case 1: return now.cups.size();
      case 2: return now.reasons.size();
      case 3: return texts.size();
      case 4: return tape.length();
      case 5: return now.rule;
      default: return -2;
    }
  }
  int sheet(int sheet, int sort, int n) {
    if (!in(sheet, 0, 3) || !in(sort, -1, 2)) return -2;
    if (sort == -1) { sheets[sheet] = null; return 1; }
    if (n > 40) return -2;
    try {
      sheets[sheet] = sort == 0 ? new byte[n] : sort == 1 ? (Object) new short[n] : new int[n];
      return 1;
    } catch (NegativeArraySizeException e) {
      return -14;
    }
  }
  int cell(int sheet, int i, int v) {
    if (!in(sheet, 0, 3)) return -2;
    Object s = sheets[sheet];
    try {
      if (s instanceof byte[]) ((byte[]) s)[i] = (byte) v;
      else if (s instanceof short[]) ((short[]) s)[i] = (short) v;
      else ((int[]) s)[i] = v;
      return 1;
    } catch (NullPointerException e) {
      return -11;
    } catch (ArrayIndexOutOfBoundsException e) {
      return -12;
    }
  }
  int copy(int sheet, int i, int other, int j, int n) {
    if (!in(sheet, 0, 3) || !in(other, 0, 3)) return -2;
    try {
      System.arraycopy(sheets[sheet], i, sheets[other], j, n);
      return n;
    } catch (NullPointerException e) {
      return -11;
    } catch (ArrayStoreException e) {
      return -13;
    } catch (IndexOutOfBoundsException e) {
      return -12;
    }
  }
  int house(int sheet, int sort, int from, int n) {
    if (!in(sheet, 0, 3) || !in(sort, 0, 2) || !in(n, 0, 5)) return -2;
    int came = 0;
    try {
      Object s = sheets[sheet];
      Object t = sort == 0 ? (byte[]) s : sort == 1 ? (Object) (short[]) s : (int[]) s;
      length(t);
      for (int k = 0; k < n; k++) {
        int kind = java.lang.reflect.Array.getInt(t, from + 2 * k);
        int number = java.lang.reflect.Array.getInt(t, from + 2 * k + 1);
        if (reader(kind, number) >= 0) came++;
      }
      return came;
    } catch (ClassCastException e) {
      return -13;
    } catch (NullPointerException e) {
      return -11;
    } catch (ArrayIndexOutOfBoundsException e) {
      return -12;
    }
  }
  int taken(int one, int k) {
    if (!in(k, 0, 5)) return -2;
    if (!isOne(one)) return -11;
    Reader r = reader(now, one);
    return KINDS.get(k).isInstance(r) ? r.number : -13;
  }
}
