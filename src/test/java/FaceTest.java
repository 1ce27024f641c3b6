import java.io.IOException;
import java.lang.reflect.Constructor;
import java.lang.reflect.Field;
import java.lang.reflect.Method;
import java.lang.reflect.Modifier;
import java.nio.file.Files;
import java.nio.file.Path;
import java.util.ArrayList;
import java.util.Arrays;
import java.util.List;
import java.util.TreeSet;
import java.util.regex.Matcher;
import java.util.regex.Pattern;

/** The public face as the document has it, and the rules of LANGUAGE.md that a text search can see. */
public final class FaceTest {
  private static final Path SOURCE = Path.of("src/main/java/LameClocks.java");
  private static final String[] CALLS = {
      "clock int int int int", "strike", "told int int", "rate int", "dial int", "paint int int", "weather int",
      "type int", "course", "skies", "street", "day", "count int", "heard", "place int", "hour", "wind int int",
      "turn int int", "tune int int", "breathe int", "undo", "restart", "behind int int int", "leads int", "finish int",
      "over", "turns int int int", "hands int int int", "both int int int int", "duel int int int int", "breath int int",
      "right int int", "appeal int int", "spans int int", "struck int int int", "bet int int", "pays int int", "settle",
      "lots int", "seed int", "image", "restore", "dress int int int int", "film int int int", "seen int int int",
      "sheet int int int", "drop int", "item int int int long", "copy int int int int int"};
  private static final String[] CONSTANTS = {"BAD", "NOT", "FULL", "NONE", "NULL", "CAST", "INDEX", "SIZE"};
  private static final int[] VALUES = {-1, -2, -3, -4, -11, -12, -13, -14};

  public static void main(String[] args) throws IOException, ReflectiveOperationException {
    calls();
    constants();
    constructors();
    insides();
    words();
    loops();
    Due.end();
  }

  static void calls() {
    TreeSet<String> faces = new TreeSet<>();
    TreeSet<String> names = new TreeSet<>();
    for (Method m : LameClocks.class.getDeclaredMethods()) {
      if (!Modifier.isPublic(m.getModifiers())) continue;
      StringBuilder face = new StringBuilder(m.getName());
      for (Class<?> p : m.getParameterTypes()) face.append(' ').append(p.getName());
      faces.add(face.toString());
      names.add(m.getName());
      Due.holds(face + " answers an int", m.getReturnType() == int.class);
      Due.holds(face + " is of an object", !Modifier.isStatic(m.getModifiers()));
      Due.holds(face + " tells no exceptions", m.getExceptionTypes().length == 0);
    }
    Due.same("the calls", faces.toString(), new TreeSet<>(Arrays.asList(CALLS)).toString());
    for (Method m : LameClocks.class.getDeclaredMethods()) {
      if (Modifier.isPublic(m.getModifiers())) continue;
      Due.holds(m.getName() + " is private", Modifier.isPrivate(m.getModifiers()));
      Due.holds(m.getName() + " is no public name", !names.contains(m.getName()));
    }
  }

  static void constants() throws ReflectiveOperationException {
    List<String> found = new ArrayList<>();
    for (Field f : LameClocks.class.getDeclaredFields()) {
      if (Modifier.isPrivate(f.getModifiers())) continue;
      found.add(f.getName());
      Due.holds(f.getName() + " is a public constant",
          Modifier.isPublic(f.getModifiers()) && Modifier.isStatic(f.getModifiers()) && Modifier.isFinal(f.getModifiers()));
    }
    Due.same("the constants", found.toString(), Arrays.asList(CONSTANTS).toString());
    for (int i = 0; i < CONSTANTS.length; i++) {
      Due.is(CONSTANTS[i], LameClocks.class.getField(CONSTANTS[i]).getInt(null), VALUES[i]);
    }
  }

  static void constructors() {
    Constructor<?>[] all = LameClocks.class.getDeclaredConstructors();
    Due.is("one constructor", all.length, 1);
    Due.holds("it is public", Modifier.isPublic(all[0].getModifiers()));
    Due.is("it takes nothing", all[0].getParameterCount(), 0);
    Due.holds("the class is final", Modifier.isFinal(LameClocks.class.getModifiers()));
  }

  static void insides() {
    Class<?>[] inside = LameClocks.class.getDeclaredClasses();
    Due.holds("at most twelve classes", inside.length <= 12);
    for (Class<?> c : inside) {
      int modifiers = c.getModifiers();
      Due.holds(c + " is static and hidden",
          Modifier.isStatic(modifiers) && !Modifier.isPublic(modifiers) && !Modifier.isProtected(modifiers));
      int fields = 0;
      for (Field f : c.getDeclaredFields()) if (!Modifier.isStatic(f.getModifiers())) fields++;
      Due.holds(c + " has at most twenty fields", fields <= 20);
      for (Method m : c.getDeclaredMethods()) Due.holds(m + " takes at most seven", m.getParameterCount() <= 7);
    }
  }

  /** The class without its comments, texts and signs. */
  private static String code() throws IOException {
    return Files.readString(SOURCE).replaceAll("(?s)/\\*.*?\\*/", " ").replaceAll("//[^\n]*", " ")
        .replaceAll("\"(\\\\.|[^\"\\\\])*\"", "\"\"").replaceAll("'(\\\\.|[^'\\\\])'", "' '");
  }

  /** Rule 9: the counter of each loop moves in the loop's own lines: in the head of a for, behind the head of a while. */
  static void loops() throws IOException {
    String code = code();
    Matcher m = Pattern.compile("\\b(for|while) \\(").matcher(code);
    int found = 0;
    while (m.find()) {
      int head = closing(code, m.end() - 1, '(', ')');
      String own = code.substring(m.start(), m.group(1).equals("for") ? head : statementEnd(code, head));
      Due.holds("its counter moves: " + own, own.matches("(?s).*(\\+\\+|--).*"));
      found++;
    }
    Due.holds("there are loops", found > 0);
    Due.holds("no loop of do", !Pattern.compile("\\bdo\\b").matcher(code).find());
  }

  private static int statementEnd(String code, int from) {
    int brace = code.indexOf('{', from);
    int semicolon = code.indexOf(';', from);
    return brace >= 0 && brace < semicolon ? closing(code, brace, '{', '}') : semicolon;
  }

  /** Behind the sign that closes the one at this place. */
  private static int closing(String code, int at, char opens, char closes) {
    int depth = 0;
    for (int i = at; i < code.length(); i++) {
      if (code.charAt(i) == opens) depth++;
      if (code.charAt(i) == closes) depth--;
      if (depth == 0) return i + 1;
    }
    return code.length();
  }

  static void words() throws IOException {
    String code = code();
    String[] ruledOut = {"throw", "throws", "try", "catch", "finally", "synchronized", "assert", "import", "package",
        "System\\.(?!arraycopy)", "Math\\.\\w+Exact", "->", "::", "double", "float", "Random", "Thread", "hashCode",
        "toString", "protected", "volatile", "native"};
    for (String word : ruledOut) {
      String whole = Character.isLetter(word.charAt(0)) ? "\\b" + word : word;
      Matcher m = Pattern.compile(whole).matcher(code);
      Due.holds("no " + word, !m.find());
    }
    for (String line : code.split("\n")) Due.holds("no line beyond 130: " + line, line.length() <= 130);
  }
}
