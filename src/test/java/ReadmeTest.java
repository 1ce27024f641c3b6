import java.io.IOException;
import java.lang.reflect.Method;
import java.lang.reflect.Modifier;
import java.nio.charset.StandardCharsets;
import java.nio.file.Files;
import java.nio.file.Path;
import java.nio.file.StandardCopyOption;
import java.util.ArrayList;
import java.util.Comparator;
import java.util.List;
import java.util.TreeSet;
import java.util.regex.Matcher;
import java.util.regex.Pattern;
import java.util.stream.Stream;

/** README.md: its example, its tables and lists, and the command that it gives for the tests. */
public final class ReadmeTest {
  private static final Path README = Path.of("README.md");
  private static final Path SOURCE = Path.of("src/main/java/LameClocks.java");
  private static final Path SCRIPT = Path.of(".ci/run");
  /** A line of the example that says what its call answers: a number, or one of the class's constants. */
  private static final Pattern ANSWERS = Pattern.compile("(int \\w+ = )?(x\\.\\w+\\(.*\\));\\s*// = (-?\\w+)(: .*)?");

  public static void main(String[] args) {
    Due.runAll(ReadmeTest.class);
  }

  // ---- the example

  static void readmeExampleCompilesAsItStands() throws Exception {
    Path room = newRoom();
    Done compiled = compileExample(room, block("java"));
    Due.holds("the example compiles: " + compiled.text, compiled.code == 0);
    clear(room);
  }

  static void readmeExampleAnswersAsItSays() throws Exception {
    List<String> lines = new ArrayList<>();
    int told = 0;
    for (String line : block("java")) {
      Matcher m = ANSWERS.matcher(line);
      if (m.matches()) told++;
      lines.add(m.matches() ? asked(m) : line);
    }
    Path room = newRoom();
    Done compiled = compileExample(room, lines);
    Due.holds("the asking example compiles: " + compiled.text, compiled.code == 0);
    Done ran = run(room, "java", "-cp", ".", "Example");
    Due.is("what the example prints: " + ran.text, ran.code, 0);
    Due.is("how many answers were looked at", ran.text.lines().filter(l -> l.startsWith("as told: ")).count(), told);
    Due.is("how many answers are not as told", ran.text.lines().filter(l -> l.startsWith("not as told: ")).count(), 0);
    Due.holds("the example tells answers", told >= 30);
    clear(room);
  }

  static void readmeExampleTellsEachAnswer() throws Exception {
    for (String line : block("java")) {
      boolean asks = line.contains("x.") && !line.startsWith("for (char sign : ");
      Due.holds("the answer is told: " + line, !asks || ANSWERS.matcher(line).matches());
    }
  }

  private static String asked(Matcher m) {
    String want = Character.isLetter(m.group(3).charAt(0)) ? "LameClocks." + m.group(3) : m.group(3);
    String kept = m.group(1) == null ? "" : m.group(1);
    return kept + "asTold(\"" + m.group(2) + "\", " + m.group(2) + ", " + want + ");";
  }

  private static Done compileExample(Path room, List<String> body) throws Exception {
    List<String> code = new ArrayList<>();
    code.add("public final class Example {");
    code.add("static int asTold(String call, int got, int want) {");
    code.add("System.out.println((got == want ? \"as told: \" : \"not as told: \") + call + \" \" + got);");
    code.add("return got; }");
    code.add("public static void main(String[] args) {");
    code.addAll(body);
    code.add("} }");
    Path file = room.resolve("Example.java");
    Files.write(file, code);
    return run(room, "javac", "-d", ".", SOURCE.toAbsolutePath().toString(), file.toString());
  }

  // ---- tables and lists

  static void readmeTellsEachRefusal() throws Exception {
    int told = 0;
    Matcher m = Pattern.compile("(?m)^\\| `([A-Z]+)` (-\\d+) \\|").matcher(text());
    while (m.find()) {
      Due.is(m.group(1), LameClocks.class.getField(m.group(1)).getInt(null), Integer.parseInt(m.group(2)));
      told++;
    }
    Due.is("how many refusals are told", told, LameClocks.class.getFields().length);
  }

  static void readmeListsEachCall() throws Exception {
    TreeSet<String> due = new TreeSet<>();
    for (Method call : LameClocks.class.getDeclaredMethods()) {
      if (Modifier.isPublic(call.getModifiers())) due.add(call.getName() + " " + call.getParameterCount());
    }
    TreeSet<String> listed = new TreeSet<>();
    Matcher m = Pattern.compile("`(\\w+)\\(([\\w, ]*)\\)`").matcher(text());
    while (m.find()) listed.add(m.group(1) + " " + (m.group(2).isEmpty() ? 0 : m.group(2).split(", ").length));
    Due.same("the calls and how much each takes", listed.toString(), due.toString());
  }

  static void readmeListsEachTest() throws Exception {
    TreeSet<String> due = new TreeSet<>();
    try (Stream<Path> files = Files.list(Path.of("src/test/java"))) {
      files.map(f -> f.getFileName().toString()).filter(f -> f.endsWith("Test.java"))
          .forEach(f -> due.add(f.substring(0, f.length() - ".java".length())));
    }
    TreeSet<String> listed = new TreeSet<>();
    Matcher m = Pattern.compile("`(\\w+Test)`").matcher(text());
    while (m.find()) listed.add(m.group(1));
    Due.same("the tests", listed.toString(), due.toString());
  }

  // ---- the command

  static void readmeCommandRunsAllTests() throws Exception {
    Path project = smallProject();
    addTest(project, "OneTest", 0);
    addTest(project, "OtherTest", 0);
    addShared(project, "SharedOne", 0);
    addShared(project, "SharedOther", 0);
    Done done = commanded(project);
    Due.is("the command, as all tests pass: " + done.text, done.code, 0);
    for (String name : new String[] {"OneTest", "OtherTest", "SharedOne", "SharedOther"}) {
      Due.holds(name + " is run", done.text.contains("here runs " + name));
    }
    clear(project.getParent());
  }

  static void readmeCommandFailsByATestOfTheProject() throws Exception {
    fails("AFailingTest", "APassingOne", 1, 0);
  }

  static void readmeCommandFailsByASharedTest() throws Exception {
    fails("APassingTest", "AFailingOne", 0, 1);
  }

  static void readmeCommandFailsByATestThatDoesNotCompile() throws Exception {
    Path project = smallProject();
    addTest(project, "GoodTest", 0);
    addShared(project, "SharedOne", 0);
    Files.writeString(project.resolve("src/test/java/OddTest.java"), "public final class OddTest { int x = \"\"; }");
    Due.holds("the command fails", commanded(project).code != 0);
    clear(project.getParent());
  }

  static void readmeCommandFailsWithoutSharedTests() throws Exception {
    Path project = smallProject();
    addTest(project, "GoodTest", 0);
    Due.holds("the command fails", commanded(project).code != 0);
    clear(project.getParent());
  }

  private static void fails(String test, String shared, int testCode, int sharedCode) throws Exception {
    Path project = smallProject();
    addTest(project, test, testCode);
    addShared(project, shared, sharedCode);
    Done done = commanded(project);
    Due.holds("the command fails", done.code != 0);
    Due.holds("the other test is run, too", done.text.contains("here runs " + (testCode == 0 ? test : shared)));
    clear(project.getParent());
  }

  /** The script and the class as they are here, without tests; ../shared is beside it, as here. */
  private static Path smallProject() throws IOException {
    Path project = newRoom().resolve("main");
    Files.createDirectories(project.resolve("src/test/java"));
    Files.createDirectories(project.resolve("../shared/tests").normalize());
    for (Path file : new Path[] {SCRIPT, SOURCE}) {
      Path to = project.resolve(file);
      Files.createDirectories(to.getParent());
      Files.copy(file, to, StandardCopyOption.COPY_ATTRIBUTES);
    }
    return project;
  }

  private static void addTest(Path project, String name, int code) throws IOException {
    Files.writeString(project.resolve("src/test/java").resolve(name + ".java"), smallTest(name, code));
  }

  private static void addShared(Path project, String name, int code) throws IOException {
    Files.writeString(project.getParent().resolve("shared/tests").resolve(name + ".java"), smallTest(name, code));
  }

  private static String smallTest(String name, int code) {
    return "public final class " + name + " { public static void main(String[] args) {"
        + " System.out.println(\"here runs " + name + " \" + new LameClocks().count(0)); System.exit(" + code + "); } }";
  }

  private static Done commanded(Path project) throws Exception {
    List<String> command = block("sh");
    Due.is("the command is one line", command.size(), 1);
    return run(project, "bash", "-c", String.join("\n", command));
  }

  // ---- what these use

  private record Done(int code, String text) { }

  private static Done run(Path in, String... command) throws Exception {
    Process p = new ProcessBuilder(command).directory(in.toFile()).redirectErrorStream(true).start();
    p.getOutputStream().close();
    String text = new String(p.getInputStream().readAllBytes(), StandardCharsets.UTF_8);
    return new Done(p.waitFor(), text);
  }

  private static String text() throws IOException {
    return Files.readString(README);
  }

  /** The page's one block of this kind. */
  private static List<String> block(String kind) throws IOException {
    Matcher m = Pattern.compile("(?s)\n```" + kind + "\n(.*?)\n```\n").matcher(text());
    Due.holds("there is a block of " + kind, m.find());
    List<String> lines = m.group(1).lines().toList();
    Due.holds("there is one block of " + kind, !m.find());
    return lines;
  }

  private static Path newRoom() throws IOException {
    return Files.createTempDirectory("readme").toRealPath();
  }

  private static void clear(Path room) throws IOException {
    List<Path> all;
    try (Stream<Path> files = Files.walk(room)) {
      all = files.sorted(Comparator.reverseOrder()).toList();
    }
    for (Path p : all) Files.delete(p);
  }
}
