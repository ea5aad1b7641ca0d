import java.lang.reflect.InvocationTargetException;
import java.lang.reflect.Method;
import java.util.ArrayList;
import java.util.HashMap;
import java.util.List;
import java.util.Map;

/** An object in a state that is built always the same way, with a count of its calls, and all that can be seen of it. */
final class Scene {
  private static final Map<String, Method> CALLS = new HashMap<>();
  static {
    for (Method m : GroundsReadOut.class.getMethods()) if (m.getDeclaringClass() == GroundsReadOut.class) CALLS.put(m.getName(), m);
  }

  private final GroundsReadOut x = new GroundsReadOut();
  private int calls = 0;

  /** A call as a row of words, as "set 1 0 999". */
  long call(String row) {
    String[] words = row.split(" ");
    Object[] args = new Object[words.length - 1];
    for (int i = 0; i < args.length; i++) {
      String w = words[i + 1];
      args[i] = w.equals("MIN") ? Integer.MIN_VALUE : w.equals("MAX") ? Integer.MAX_VALUE : Integer.parseInt(w);
    }
    return call(words[0], args);
  }
  private long call(String name, Object... args) {
    if (++calls > 512) throw new IllegalStateException("more than 512 calls");
    try {
      return ((Number) CALLS.get(name).invoke(x, args)).longValue();
    } catch (InvocationTargetException e) {
      throw new IllegalStateException(name + " threw", e.getCause());
    } catch (IllegalAccessException e) {
      throw new IllegalStateException(name, e);
    }
  }
  private Scene then(String... rows) {
    for (String row : rows) if (call(row) < 0) throw new IllegalStateException("the scene's own " + row + " is refused");
    return this;
  }
  private Scene fed(String text) {
    for (int i = 0; i < text.length(); i++) call("feed", (int) text.charAt(i));
    return this;
  }

  static Scene of(String name) {
    Scene s = new Scene();
    switch (name) {
      case "bare": return s;
      case "plain": return s.plain();
      case "late": return s.plain().then("set 1 0 999", "set 5 0 99");
      case "full": return s.full();
      case "tape": return s.fullTape();
      case "texts": return s.fullTexts();
      default: throw new IllegalStateException(name);
    }
  }

  /** Some of all, an image that is otherwise, a tape that is half a text; sheet 3 is missing. */
  private Scene plain() {
    then("set 0 0 9", "set 1 0 7", "cup 33 4", "reason 4 1", "reader 5 8", "set 5 0 3", "image");
    fed("turns 2+number;misses hour;bounds 9;");
    then("text", "force 1", "set 0 0 3007", "set 1 0 36", "set 2 0 77", "set 3 0 6", "cup 2100 9", "cup 5 0");
    then("reason 5 6", "reason 0 3", "set 4 0 2", "set 5 0 1", "reader 0 4", "reader 4 6", "set 5 1 5");
    then("sheet 0 0 3", "cell 0 0 1", "cell 0 1 2", "cell 0 2 3", "sheet 1 1 2", "cell 1 0 4", "cell 1 1 5");
    then("sheet 2 2 5", "cell 2 0 3", "cell 2 1 1", "cell 2 2 2", "cell 2 3 5", "cell 2 4 4");
    return fed("turns 4;misses 3;bo");
  }

  /** Six cups, twelve reasons, five readers, a sheet of forty. */
  private Scene full() {
    then("reader 5 0", "image");
    for (int i = 0; i < 6; i++) call("cup", 100 * i + 1, i);
    for (int i = 0; i < 12; i++) call("reason", 1 << (i + 1) % 12, i);
    for (int i = 0; i < 4; i++) call("reader", i, 2 * i);
    then("set 0 0 1029", "set 1 0 500", "sheet 3 0 40", "cell 3 0 3", "cell 3 1 7", "cell 3 38 1", "cell 3 39 9");
    return this;
  }

  private Scene fullTape() {
    plain();
    StringBuilder s = new StringBuilder("unds 8 ;");
    while (s.length() + 19 < 160) s.append(s.length() % 2 == 0 ? ' ' : '\n');
    return fed(s.toString());
  }

  private Scene fullTexts() {
    then("reader 0 0", "cup 3 5", "image");
    for (int i = 1; i < 6; i++) fed("turns " + i + ";misses 9;bounds 9;").then("text");
    return fed("turns 9;").then("force 3");
  }

  /** All that can be seen, in the order in which it is looked at; looking changes the object. */
  List<Long> seen() {
    List<Long> all = new ArrayList<>();
    now(all);
    int[] sizes = new int[4], sorts = new int[4];
    for (int s = 0; s < 4; s++) {
      sorts[s] = -1;
      for (int sort = 0; sort < 3; sort++) if (look(all, "house", s, sort, 0, 0) == 0) sorts[s] = sort;
      // None may be copied from right behind the last one, too.
      while (sorts[s] >= 0 && look(all, "copy", s, sizes[s] + 1, s, 0, 0) == 0) sizes[s]++;
    }
    tapeAndTexts(all);
    look(all, "back");
    now(all);
    for (int s = 0; s < 4; s++) {
      for (int i = 0; i + 1 < sizes[s]; i += i + 2 < sizes[s] - 1 ? 2 : 1) {
        look(all, "house", s, sorts[s], i, 1);
        int last = (int) look(all, "count", 0) - 1;
        look(all, "told", last, 6);
        look(all, "told", last, 4);
        if (last == 4) look(all, "back");
      }
    }
    return all;
  }
  private long look(List<Long> all, String name, Object... args) {
    long answer = call(name, args);
    all.add(answer);
    return answer;
  }
  private void now(List<Long> all) {
    for (int i = 0; i < 6; i++) look(all, "count", i);
    for (int i = 0; i < 2; i++) look(all, "told", 0, i);
    int readers = (int) call("count", 0), cups = (int) call("count", 1), reasons = (int) call("count", 2);
    for (int i = 0; i < cups; i++) for (int w = 2; w < 4; w++) look(all, "told", i, w);
    for (int i = 0; i < readers; i++) for (int w = 4; w < 8; w++) look(all, "told", i, w);
    for (int i = 0; i < reasons; i++) for (int w = 8; w < 10; w++) look(all, "told", i, w);
  }
  /** The tape's rest makes it a text, where it can be one; then each text is seen by what it turns and misses. */
  private void tapeAndTexts(List<Long> all) {
    for (char c : (call("count", 4) == 160 ? "" : "unds 8;").toCharArray()) look(all, "feed", (int) c);
    look(all, "text");
    int texts = (int) call("count", 3);
    for (int t = 0; t < texts; t++) {
      look(all, "force", t);
      for (int one = 0; one < 2; one++) for (int w = 0; w < 2; w++) look(all, "sees", one, 0, w);
    }
  }
}
