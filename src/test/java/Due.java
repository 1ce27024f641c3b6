import java.lang.reflect.InvocationTargetException;
import java.lang.reflect.Method;
import java.lang.reflect.Modifier;
import java.util.ArrayList;
import java.util.Comparator;
import java.util.List;

/** What every test of the project uses: answers that are due, and texts typed onto the tape. */
final class Due {
  static final int MIN = Integer.MIN_VALUE, MAX = Integer.MAX_VALUE;
  private static volatile String test = "";
  private static int wrong = 0;
  private static int looked = 0;

  private Due() { }

  static void is(String call, long got, long want) {
    looked++;
    if (got == want) return;
    wrong++;
    if (wrong <= 50) System.out.println(test + call + " answered " + got + ", due is " + want);
  }

  /** Each static method that is named by a promise, by a part of "Terms" or by README.md is a test of its own. */
  static void runAll(Class<?> tests) {
    List<Method> found = new ArrayList<>();
    for (Method m : tests.getDeclaredMethods()) {
      boolean named = m.getName().matches("(promise|terms|readme).*");
      if (named && Modifier.isStatic(m.getModifiers()) && m.getParameterCount() == 0) found.add(m);
    }
    found.sort(Comparator.comparing(Method::getName));
    endInTime();
    int failed = 0;
    for (Method m : found) {
      int before = wrong;
      int lookedBefore = looked;
      run(m);
      holds("the test looks at something", looked > lookedBefore);
      if (wrong > before) failed++;
    }
    test = "";
    System.out.println(found.size() + " tests, " + failed + " failed");
    end();
  }

  /** A call that never ends is a failure, too: whole tests take seconds. */
  private static void endInTime() {
    Thread guard = new Thread(() -> {
      try {
        Thread.sleep(300_000);
      } catch (InterruptedException e) {
        return;
      }
      System.out.println(test + "does not end");
      Runtime.getRuntime().halt(1);
    });
    guard.setDaemon(true);
    guard.start();
  }

  private static void run(Method m) {
    test = m.getName() + ": ";
    try {
      m.setAccessible(true);
      m.invoke(null);
    } catch (IllegalAccessException e) {
      throw new IllegalStateException(e);
    } catch (InvocationTargetException e) {
      holds("nothing is thrown, but " + e.getCause(), false);
    }
  }

  static void type(LameClocks x, String text) {
    for (int i = 0; i < text.length(); i++) is("type " + text.charAt(i), x.type(text.charAt(i)), i + 1);
  }

  static int course(LameClocks x, String text) {
    type(x, text);
    return x.course();
  }

  static int skies(LameClocks x, String text) {
    type(x, text);
    return x.skies();
  }

  static int street(LameClocks x, String text) {
    type(x, text);
    return x.street();
  }

  static int day(LameClocks x, String text) {
    type(x, text);
    return x.day();
  }

  /** All that can be asked of windows, clocks and counts: two like texts are two like states. */
  static String state(LameClocks x) {
    StringBuilder s = new StringBuilder();
    for (int what = 0; what <= 7; what++) s.append(x.count(what)).append(' ');
    s.append("heard ").append(x.heard());
    for (int w = 0; w < 24; w++) s.append(' ').append(x.dial(w));
    for (int h = 0; h < 24; h++) s.append(' ').append(x.weather(h));
    for (int c = 0; c < 9; c++) {
      s.append("\n").append(x.rate(c)).append(' ').append(x.place(c));
      for (int what = 0; what <= 6; what++) s.append(' ').append(x.told(c, what));
    }
    for (int b = 0; b < 6; b++) s.append(' ').append(x.pays(b, 0)).append(' ').append(x.pays(b, 1));
    return s.toString();
  }

  static void same(String what, String got, String want) {
    looked++;
    if (got.equals(want)) return;
    wrong++;
    System.out.println(test + what + ": the state is\n" + got + "\nand should be\n" + want);
  }

  static void holds(String what, boolean so) {
    looked++;
    if (so) return;
    wrong++;
    System.out.println(test + "does not hold: " + what);
  }

  static void end() {
    System.out.println(looked + " answers looked at, " + wrong + " not as due");
    if (wrong != 0) System.exit(1);
  }
}
