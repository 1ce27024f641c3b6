/** Promises 24 to 35: each sentence that names an edge or a refusal has a test of its own. */
public final class ComesEdgesTest {
  private static final int[] NO_BITS = {-1, 2, Due.MIN, Due.MAX};
  private static final int[] NO_PLACES = {-1, 0, 10, Due.MIN, Due.MAX};

  public static void main(String[] args) {
    Due.runAll(ComesEdgesTest.class);
  }

  private static LameClocks race(String course, String street) {
    LameClocks x = new LameClocks();
    Due.course(x, course);
    Due.street(x, street);
    return x;
  }

  /** Nine clocks of whom the last one alone goes at first, and is home behind two hours. */
  private static LameClocks nine() {
    return race("-55", "o0,o0,o0,o0,o0,o0,o0,o0,o300");
  }

  /** Numbers of hours that may not be, of a clock that there is. */
  private static void noSuchSpan(String what, Twins.NumberCall call) {
    for (int n : new int[] {-1, 201, Due.MIN, Due.MAX}) {
      for (Twins.Setup s : Twins.ALL) Twins.refused(what + " " + n, -1, s, x -> call.on(x, n));
    }
  }

  private static void noSuch(String what, int[] numbers, Twins.NumberCall call) {
    for (int b : numbers) Twins.refused(what + " " + b, -1, Twins.UNDER_WAY, x -> call.on(x, b));
  }

  // ---- 24, 25

  static void promise24NoSuchClock() {
    Twins.noSuchClock("behind", -1, (x, c) -> x.behind(c, 0, 0));
    Due.is("the ninth", nine().behind(8, 1, 0), 1);
    Due.is("the ninth", nine().behind(8, 1, 1), 1);
    Due.is("the first", nine().behind(0, 1, 1), 2);
  }

  static void promise24HoursAre0To200() {
    noSuchSpan("behind", (x, n) -> x.behind(0, n, 0));
    Due.is("0", nine().behind(8, 0, 0), 0);
    Due.is("1", nine().behind(8, 1, 0), 1);
    Due.is("2", nine().behind(8, 2, 0), 2);
    Due.is("200", nine().behind(8, 200, 0), 2);
  }

  static void promise24WindowOrPlace() {
    noSuch("behind", NO_BITS, (x, what) -> x.behind(0, 0, what));
    Due.is("window", nine().behind(0, 5, 0), 0);
    Due.is("place", nine().behind(0, 5, 1), 2);
  }

  static void promise25HoursAre0To200() {
    noSuchSpan("leads", (x, n) -> x.leads(n));
    Due.is("0", nine().leads(0), 511);
    Due.is("1", nine().leads(1), 256);
    Due.is("200", nine().leads(200), 256);
  }

  static void promise25NoClock() {
    Due.is("none", new LameClocks().leads(0), 0);
    Due.is("none", new LameClocks().leads(200), 0);
    Due.is("bad", new LameClocks().leads(201), -1);
  }

  // ---- 26, 27

  static void promise26NoSuchClock() {
    Twins.noSuchClock("finish", -1, (x, c) -> x.finish(c));
    Due.is("the ninth", nine().finish(8), 2);
  }

  static void promise26NoneIn200Hours() {
    for (int c = 0; c < 8; c++) {
      int clock = c;
      Due.is("none", nine().finish(clock), -4);
    }
    Twins.onlyAsks("none", Twins.FULL, x -> x.finish(1));
  }

  static void promise26Now() {
    LameClocks x = race("--", "o0");
    x.hour();
    for (int i = 0; i < 160; i++) x.lots(2);
    Due.is("long ago", x.finish(0), 1);
  }

  static void promise27None() {
    Due.is("one never is", nine().over(), -4);
    Due.is("no clock", new LameClocks().over(), 0);
  }

  // ---- 28, 29, 30

  static void promise28NoSuchClock() {
    Twins.noSuchClock("turns", -1, (x, c) -> x.turns(c, 1, 0));
    Due.is("the ninth", nine().turns(8, 1, 5), 0);
  }

  static void promise28PlacesAre1To9() {
    noSuch("turns", NO_PLACES, (x, p) -> x.turns(0, p, 0));
    Due.is("1", nine().turns(0, 1, 2), -4);
    Due.is("2", nine().turns(0, 2, 2), 0);
    Due.is("9", nine().turns(0, 9, 2), 0);
  }

  static void promise28HoursAre0To200() {
    noSuchSpan("turns", (x, n) -> x.turns(0, 1, n));
    Due.is("0", nine().turns(0, 1, 0), 0);
    Due.is("200", nine().turns(0, 1, 200), -4);
  }

  static void promise28TheFewest() {
    LameClocks x = race("-23-", "p0,m0");
    // The mayor goes in hour 0; behind 6 hours clock 0 has PLACE 1 if it came to window 1 by striking 2.
    Due.is("2", x.turns(0, 1, 6), 2);
    x.wind(0, 1);
    Due.is("1", x.turns(0, 1, 6), 1);
    x.wind(0, 1);
    Due.is("0", x.turns(0, 1, 6), 0);
  }

  static void promise29NoSuchClock() {
    Twins.noSuchClock("hands", -1, (x, c) -> x.hands(c, 1, 0));
    Due.is("the ninth", nine().hands(8, 1, 5), 0);
  }

  static void promise29PlacesAre1To9() {
    noSuch("hands", NO_PLACES, (x, p) -> x.hands(0, p, 0));
    Due.is("1", nine().hands(0, 1, 2), 5);
    Due.is("2", nine().hands(0, 2, 2), 0);
    Due.is("9", nine().hands(0, 9, 2), 0);
  }

  static void promise29HoursAre0To200() {
    noSuchSpan("hands", (x, n) -> x.hands(0, 1, n));
    Due.is("0", nine().hands(0, 1, 0), 0);
    Due.is("200", nine().hands(0, 1, 200), 5);
  }

  static void promise29None() {
    LameClocks x = race("-5-", "d0,o300");
    Due.is("a sundial's hands do not matter", x.hands(0, 1, 1), -4);
    Due.is("its place is 2 all the same", x.hands(0, 2, 1), 0);
  }

  static void promise30NoSuchClock() {
    Twins.noSuchClock("both", -1, (x, c) -> x.both(c, 1, 0, 0));
    Due.is("the ninth", nine().both(8, 1, 5, 0), 0);
  }

  static void promise30PlacesAre1To9() {
    noSuch("both", NO_PLACES, (x, p) -> x.both(0, p, 0, 0));
    Due.is("1", nine().both(0, 1, 2, 0), 5);
    Due.is("2", nine().both(0, 2, 2, 0), 0);
    Due.is("9", nine().both(0, 9, 2, 0), 0);
  }

  static void promise30HoursAre0To200() {
    noSuchSpan("both", (x, n) -> x.both(0, 1, n, 0));
    Due.is("0", nine().both(0, 1, 0, 0), 0);
    Due.is("200", nine().both(0, 1, 200, 0), 5);
  }

  static void promise30TogetherOrHours() {
    noSuch("both", NO_BITS, (x, what) -> x.both(0, 1, 0, what));
    Due.is("together", nine().both(0, 1, 2, 0), 5);
    Due.is("hours", nine().both(0, 1, 2, 1), 5);
    LameClocks x = race("-23-", "p0,m0");
    Due.is("together", x.both(0, 1, 6, 0), 2);
    Due.is("hours", x.both(0, 1, 6, 1), 0);
  }

  static void promise30None() {
    LameClocks x = race("-5-", "d0,o300");
    Due.is("together", x.both(0, 1, 1, 0), -4);
    Due.is("hours", x.both(0, 1, 1, 1), -4);
  }

  // ---- 31, 32

  static void promise31NoSuchClock() {
    Twins.noSuchClock("the first", -1, (x, c) -> x.duel(c, 0, 0, 0));
    Twins.noSuchClock("the other", -1, (x, c) -> x.duel(0, c, 0, 0));
    Due.is("the eighth and the ninth", nine().duel(7, 8, 0, 0), 144);
    Due.is("the ninth and the first", nine().duel(8, 0, 0, 0), 144);
  }

  static void promise31OneAlike() {
    for (int c = 0; c < 3; c++) {
      int clock = c;
      Twins.refused("duel", -1, Twins.UNDER_WAY, x -> x.duel(clock, clock, 5, 0));
      Twins.refused("duel", -1, Twins.UNDER_WAY, x -> x.duel(clock, clock, 5, 1));
    }
  }

  static void promise31HoursAre0To200() {
    noSuchSpan("duel", (x, n) -> x.duel(0, 1, n, 0));
    Due.is("0", nine().duel(0, 1, 0, 1), 0);
    Due.is("1", nine().duel(0, 1, 1, 1), 505);
    Due.is("200", nine().duel(0, 1, 200, 1), 505);
  }

  static void promise31RestsOrTheFirst() {
    noSuch("duel", NO_BITS, (x, what) -> x.duel(0, 1, 0, what));
    Due.is("rests", nine().duel(0, 1, 1, 0), 1);
    Due.is("the first", nine().duel(0, 1, 1, 1), 505);
  }

  static void promise31NoneOfTheFirstAlone() {
    LameClocks x = new LameClocks();
    x.clock(2, 0, 0, 0);
    x.hour();
    x.clock(2, 0, 0, 0);
    Due.is("rests", x.duel(0, 1, 1, 0), 0);
    Due.is("the first", x.duel(0, 1, 1, 1), -4);
  }

  static void promise32NoSuchClock() {
    Twins.noSuchClock("breath", -1, (x, c) -> x.breath(c, 0));
    Due.is("the first", nine().breath(0, 1), 1);
    Due.is("the ninth", nine().breath(8, 1), -4);
  }

  static void promise32HoursAre0To200() {
    noSuchSpan("breath", (x, n) -> x.breath(0, n));
    Due.is("0", nine().breath(0, 0), -4);
    Due.is("1", nine().breath(0, 1), 1);
    Due.is("200", nine().breath(0, 200), 1);
  }

  // ---- 33, 34, 35

  static void promise33NoSuchClock() {
    Twins.noSuchClock("right", -1, (x, c) -> x.right(c, 0));
    Due.is("the first", nine().right(0, 12), 1);
    Due.is("the ninth", nine().right(8, 5), 0);
    Due.is("the ninth", nine().right(8, 6), 1);
  }

  static void promise33HoursAre0To200() {
    noSuchSpan("right", (x, n) -> x.right(0, n));
    Due.is("0", nine().right(0, 0), 0);
    Due.is("1", nine().right(0, 1), 1);
    Due.is("192: 16 times 12", nine().right(0, 192), 16);
    Due.is("193", nine().right(0, 193), 17);
    Due.is("200", nine().right(0, 200), 17);
  }

  static void promise34NoSuchClock() {
    Twins.noSuchClock("appeal", -1, (x, c) -> x.appeal(c, 0));
    Due.is("the first", nine().appeal(0, 1), 2);
    Due.is("the ninth", nine().appeal(8, 1), 1);
  }

  static void promise34HoursAre0To200() {
    noSuchSpan("appeal", (x, n) -> x.appeal(0, n));
    Due.is("0", nine().appeal(0, 0), 1);
    Due.is("1", nine().appeal(0, 1), 2);
    Due.is("200", nine().appeal(0, 200), 2);
  }

  static void promise35NoSuchClock() {
    Twins.noSuchClock("spans", -1, (x, c) -> x.spans(c, 0));
    Due.is("the first", nine().spans(0, 0), 201);
    Due.is("the ninth", nine().spans(8, 1), 2);
  }

  static void promise35LeastOrMost() {
    noSuch("spans", NO_BITS, (x, what) -> x.spans(0, what));
    LameClocks x = race("---", "c0");
    Due.is("least", x.spans(0, 0), 1);
    Due.is("most", x.spans(0, 1), 2);
  }
}
