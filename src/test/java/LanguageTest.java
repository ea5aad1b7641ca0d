import java.io.DataInputStream;
import java.io.IOException;
import java.io.InputStream;
import java.lang.reflect.Executable;
import java.lang.reflect.Field;
import java.lang.reflect.Method;
import java.lang.reflect.Modifier;
import java.nio.file.Files;
import java.nio.file.Path;
import java.util.ArrayList;
import java.util.Arrays;
import java.util.HashSet;
import java.util.List;
import java.util.Set;
import java.util.TreeSet;
import java.util.regex.Matcher;
import java.util.regex.Pattern;

/** What of ../shared/LANGUAGE.md and of the face can be seen from outside: in the source, the class files, by reflection. */
public final class LanguageTest {
  private static final Path SOURCE = Path.of("src/main/java/GroundsReadOut.java");
  private static final Set<String> FACE = new TreeSet<>(List.of(
      "int set(int,int,int)", "int cup(int,int)", "int reason(int,int)", "int unsay()", "int reader(int,int)", "int told(int,int)",
      "int sees(int,int,int)", "int feed(int)", "int text()", "int force(int)", "int read(int,int)", "int follows(int,int)",
      "int best(int)", "int why(int,int)", "int next(int,int)", "int alike(int,int)", "long share(int)", "int tells(int,int,int)",
      "int film(int,int)", "int drawn(int,int)", "long chance(int,int,int,int)", "int image()", "int back()", "int count(int)",
      "int sheet(int,int,int)", "int cell(int,int,int)", "int copy(int,int,int,int,int)", "int house(int,int,int,int)", "int taken(int,int)"));
  private static final Set<String> LIBRARY = Set.of(
      "java/lang/Object.<init>", "java/lang/String.length", "java/lang/String.charAt", "java/lang/System.arraycopy",
      "java/lang/Integer.bitCount", "java/lang/Math.min", "java/lang/Math.max", "java/lang/Math.floorMod",
      "java/util/Arrays.copyOf", "java/util/Arrays.fill");
  private static int wrong = 0;

  private static void must(boolean so, String what) {
    if (!so) {
      wrong++;
      System.out.println(what);
    }
  }

  /** Rule 1. */
  private static void face(Class<?>[] inside) {
    Class<GroundsReadOut> c = GroundsReadOut.class;
    must(Modifier.isPublic(c.getModifiers()) && Modifier.isFinal(c.getModifiers()), "the class is public and final");
    must(c.getDeclaredConstructors().length == 1 && c.getConstructors().length == 1 && c.getConstructors()[0].getParameterCount() == 0,
        "one constructor, public, of nothing");
    Set<String> open = new TreeSet<>();
    Set<String> names = new HashSet<>();
    for (Method m : c.getDeclaredMethods()) {
      if (Modifier.isPrivate(m.getModifiers())) continue;
      must(Modifier.isPublic(m.getModifiers()) && !Modifier.isStatic(m.getModifiers()), m + " is public, not static");
      StringBuilder parameters = new StringBuilder();
      for (Class<?> p : m.getParameterTypes()) parameters.append(parameters.length() == 0 ? "" : ",").append(p.getName());
      open.add(m.getReturnType().getName() + " " + m.getName() + "(" + parameters + ")");
      names.add(m.getName());
    }
    must(open.equals(FACE), "the face is " + open);
    Set<String> constants = new TreeSet<>();
    for (Field f : c.getDeclaredFields()) if (!Modifier.isPrivate(f.getModifiers())) constants.add(f.toString());
    must(constants.equals(new TreeSet<>(List.of(
        "public static final int GroundsReadOut.NONE", "public static final int GroundsReadOut.BAD",
        "public static final int GroundsReadOut.STATE", "public static final int GroundsReadOut.FULL",
        "public static final long GroundsReadOut.NO"))), "the constants are " + constants);
    List<Class<?>> all = new ArrayList<>(Arrays.asList(inside));
    all.add(c);
    for (Class<?> k : all) {
      for (Method m : k.getDeclaredMethods()) {
        must(k == c && Modifier.isPublic(m.getModifiers()) || !names.contains(m.getName()), m + " bears a public one's name");
        must(!m.isSynthetic() && m.getParameterCount() <= 7, m + " is synthetic or takes more than seven");
      }
    }
  }

  /** Rules 2, 3, 5, 11. */
  private static void inside(Class<?>[] inside) {
    must(inside.length <= 12, "twelve classes at most");
    for (Class<?> k : inside) {
      must(Modifier.isStatic(k.getModifiers()) && !Modifier.isPublic(k.getModifiers()), k + " is static and not public");
      int fields = 0;
      for (Field f : k.getDeclaredFields()) {
        if (!Modifier.isStatic(f.getModifiers())) fields++;
        else must(Modifier.isFinal(f.getModifiers()), f + " is final");
      }
      must(fields <= 20, k + " has " + fields + " fields");
      for (Executable e : k.getDeclaredConstructors()) must(e.getParameterCount() <= 7, e + " takes seven at most");
    }
  }

  /** Rules 2, 4, 6: which methods of the library the class files call, and that they link nothing by invokedynamic. */
  private static void library(Class<?> k) throws IOException {
    try (InputStream raw = k.getResourceAsStream("/" + k.getName() + ".class"); DataInputStream in = new DataInputStream(raw)) {
      in.readInt();
      in.readUnsignedShort();
      in.readUnsignedShort();
      int n = in.readUnsignedShort();
      int[] tag = new int[n], a = new int[n], b = new int[n];
      String[] text = new String[n];
      for (int i = 1; i < n; i++) {
        tag[i] = in.readUnsignedByte();
        switch (tag[i]) {
          case 1: text[i] = in.readUTF(); break;
          case 3: case 4: in.readInt(); break;
          case 5: case 6: in.readLong(); i++; break;
          case 7: case 8: case 16: case 19: case 20: a[i] = in.readUnsignedShort(); break;
          case 15: in.readUnsignedByte(); a[i] = in.readUnsignedShort(); break;
          default: a[i] = in.readUnsignedShort(); b[i] = in.readUnsignedShort();
        }
      }
      for (int i = 1; i < n; i++) {
        must(tag[i] < 15, k + " links something at run time (" + tag[i] + ")");
        if (tag[i] != 9 && tag[i] != 10 && tag[i] != 11) continue;
        String owner = text[a[a[i]]], name = text[a[b[i]]];
        if (owner.startsWith("GroundsReadOut") || owner.startsWith("[")) continue;
        must(LIBRARY.contains(owner + "." + name), k + " uses " + owner + "." + name);
      }
    }
  }

  /** Rules 6, 10, 11, 13, as far as words and lines tell. */
  private static void source() throws IOException {
    String whole = Files.readString(SOURCE);
    for (char c : whole.toCharArray()) must(c == '\n' || c >= 32 && c < 127, "a sign " + (int) c);
    String code = whole.replaceAll("(?s)/\\*.*?\\*/", "").replaceAll("//[^\n]*", "").replaceAll("\"[^\"\n]*\"", "\"\"")
        .replaceAll("'[^']'", "0");
    Matcher word = Pattern.compile("[A-Za-z]+|->|::|@").matcher(code);
    Set<String> banned = Set.of("throw", "throws", "try", "catch", "finally", "synchronized", "assert", "package", "record", "volatile",
        "transient", "native", "Random", "Thread", "File", "hashCode", "toString", "getClass", "->", "::", "@");
    while (word.find()) must(!banned.contains(word.group()), "the source has " + word.group());
    Matcher imports = Pattern.compile("import ([^;]*);").matcher(code);
    while (imports.find()) must(imports.group(1).equals("java.util.Arrays"), "import of " + imports.group(1));
    String[] lines = whole.split("\n");
    for (int i = 0; i < lines.length; i++) {
      if (!lines[i].matches(" {4,8}[A-Za-z].*\\) \\{")) continue;
      String indent = lines[i].replaceAll("\\S.*", "");
      int end = i;
      while (end < lines.length && !lines[end].equals(indent + "}")) end++;
      must(end - i <= 60, "a method of " + (end - i) + " lines: " + lines[i].trim());
    }
  }

  public static void main(String[] args) throws IOException {
    Class<?>[] inside = GroundsReadOut.class.getDeclaredClasses();
    face(inside);
    inside(inside);
    library(GroundsReadOut.class);
    for (Class<?> k : inside) library(k);
    source();
    System.out.println(wrong + " rules broken");
    if (wrong != 0) System.exit(1);
  }
}
