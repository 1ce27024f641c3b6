/** Promises 17 to 23: each sentence that names an edge or a refusal has a test of its own. */
public final class HoursEdgesTest {
  public static void main(String[] args) {
    Due.runAll(HoursEdgesTest.class);
  }

  private static LameClocks street(String text) {
    LameClocks x = new LameClocks();
    Due.street(x, text);
    return x;
  }

  // ---- 17

  static void promise17HowManyGo() {
    LameClocks x = street("o0,o0,o0,o0,o0,o0,o0,o0,o0");
    Due.course(x, "--");
    Due.is("nine", x.hour(), 9);
    Due.is("none", x.hour(), 0);
    Due.is("no clock", new LameClocks().hour(), 0);
  }

  static void promise17FullAt9999() {
    LameClocks x = street("o0");
    for (int i = 0; i < 166; i++) x.lots(60);
    x.lots(38);
    x.restart();
    Due.is("at 0 again", x.hour(), 1);
    LameClocks y = new LameClocks();
    for (int i = 0; i < 166; i++) y.lots(60);
    y.lots(38);
    Due.is("at 9998", y.hour(), 0);
    Due.is("the hour", y.count(2), 9999);
    Twins.refused("hour", -3, Twins.LATE, z -> z.hour());
  }

  // ---- 18

  static void promise18WindBy1To99() {
    LameClocks x = street("p0,p0");
    Due.is("1", x.wind(0, 1), 1);
    Due.is("99", x.wind(1, 99), 99);
    for (int b : new int[] {0, 100, -1, Due.MIN, Due.MAX}) {
      for (Twins.Setup s : Twins.ALL) Twins.refused("wind " + b, -1, s, y -> y.wind(0, b));
    }
  }

  static void promise18NoSuchClock() {
    Twins.noSuchClock("wind", -1, (x, c) -> x.wind(c, 1));
    LameClocks x = street("p0,p0,p0,p0,p0,p0,p0,p0,p0*3");
    Due.is("the ninth", x.wind(8, 2), 5);
  }

  static void promise18ItsSpringIsTold() {
    LameClocks x = street("o0*97");
    Due.is("98", x.wind(0, 1), 98);
    Due.is("99", x.wind(0, 1), 99);
    Due.is("99 at most", x.wind(0, 1), 99);
    Due.is("a repair all the same", x.count(6), 3);
  }

  // ---- 19

  static void promise19TurnBy1To719() {
    LameClocks x = street("p0");
    Due.is("1", x.turn(0, 1), 1);
    Due.is("719", x.turn(0, 719), 0);
    for (int b : new int[] {0, 720, -1, Due.MIN, Due.MAX}) {
      for (Twins.Setup s : Twins.ALL) Twins.refused("turn " + b, -1, s, y -> y.turn(0, b));
    }
  }

  static void promise19NoSuchClock() {
    Twins.noSuchClock("turn", -1, (x, c) -> x.turn(c, 1));
    LameClocks x = street("p0,p0,p0,p0,p0,p0,p0,p0,p0");
    Due.is("the ninth", x.turn(8, 2), 2);
  }

  static void promise19HandsGoOverThe12() {
    for (int hands = 0; hands < 720; hands += 719) {
      LameClocks x = street("p" + hands);
      Due.is("1 on", x.turn(0, 1), hands == 0 ? 1 : 0);
    }
    LameClocks x = street("o1");
    Due.is("719", x.turn(0, 718), 719);
    Due.is("0", x.turn(0, 1), 0);
  }

  // ---- 20

  static void promise20RatesAreMinus30To30() {
    LameClocks x = street("p0");
    Due.is("-30", x.tune(0, -30), 0);
    Due.is("30", x.tune(0, 30), -30);
    Due.is("rate", x.rate(0), 30);
    for (int b : new int[] {-31, 31, Due.MIN, Due.MAX}) {
      for (Twins.Setup s : Twins.ALL) Twins.refused("tune " + b, -1001, s, y -> y.tune(0, b));
    }
  }

  static void promise20NoSuchClockIs1000Less() {
    Twins.noSuchClock("tune", -1001, (x, c) -> x.tune(c, 1));
    LameClocks x = street("p0,p0,p0,p0,p0,p0,p0,p0,p0-3");
    Due.is("the ninth", x.tune(8, 2), -3);
  }

  static void promise20ARateThatIsTheSameIsARepair() {
    LameClocks x = street("p0+5");
    Due.is("tune", x.tune(0, 5), 5);
    Due.is("repairs", x.count(6), 1);
    Due.is("undo", x.undo(), 0);
    Due.is("rate", x.rate(0), 5);
  }

  // ---- 21

  static void promise21NoSuchWindow() {
    Twins.noSuchWindow("breathe", (x, w) -> x.breathe(w));
    LameClocks x = new LameClocks();
    Due.course(x, "3".repeat(24));
    Due.is("the first", x.breathe(0), 3);
    Due.is("the last", x.breathe(23), 3);
    Due.is("none behind it", x.breathe(24), -1);
  }

  static void promise21NotIfItIsNone() {
    for (int w = 0; w < 8; w++) {
      int window = w;
      Twins.refused("breathe", -2, Twins.FRESH, x -> x.breathe(window));
    }
    LameClocks x = new LameClocks();
    x.paint(3, 0);
    Due.is("it is 0", x.breathe(3), 0);
    Due.is("it is none", x.breathe(3), -2);
    x.paint(3, 11);
    Due.is("it is 11", x.breathe(3), 11);
    Due.is("two repairs", x.count(6), 2);
  }

  static void promise21BadAheadOfNot() {
    Due.is("8 of eight that are none", new LameClocks().breathe(8), -1);
    Due.is("-1 of eight that are none", new LameClocks().breathe(-1), -1);
  }

  // ---- 22

  static void promise22NoneIsKnown() {
    Twins.refused("undo", -4, Twins.FRESH, x -> x.undo());
    LameClocks x = street("p0");
    x.turn(0, 5);
    Due.is("one", x.undo(), 0);
    Due.is("none", x.undo(), -4);
    Due.is("it is not done again", x.told(0, 1), 0);
  }

  static void promise22HowManyMoreMayBe() {
    LameClocks x = street("p0");
    for (int i = 0; i < 15; i++) {
      x.turn(0, 1);
      Due.is("known", x.count(6), Math.min(10, i + 1));
    }
    for (int left = 9; left >= 0; left--) {
      Due.is("undo", x.undo(), left);
      Due.is("known", x.count(6), left);
    }
    Due.is("none", x.undo(), -4);
    Due.is("the five oldest stay", x.told(0, 1), 5);
  }

  static void promise22EachKindIsAsAheadOfIt() {
    LameClocks x = street("p10+3*95");
    x.paint(4, 6);
    x.wind(0, 20);
    x.turn(0, 715);
    x.tune(0, -9);
    x.breathe(4);
    int[][] due = {{99, 5, -9, 12}, {99, 5, -9, 6}, {99, 5, 3, 6}, {99, 10, 3, 6}, {95, 10, 3, 6}};
    for (int i = 0; i < 5; i++) {
      Due.is("spring", x.told(0, 2), due[i][0]);
      Due.is("hands", x.told(0, 1), due[i][1]);
      Due.is("rate", x.rate(0), due[i][2]);
      Due.is("dial", x.dial(4), due[i][3]);
      Due.is("undo", x.undo(), 3 - i < 0 ? -4 : 3 - i);
    }
  }

  static void promise22OnlyWhatWasRepairedIsUndone() {
    LameClocks x = street("p0*9,p0*9");
    x.turn(0, 30);
    x.hour();
    x.undo();
    Due.is("hands", x.told(0, 1), 0);
    Due.is("the spring has run", x.told(0, 2), 8);
    Due.is("the window stays", x.told(0, 3), 1);
    Due.is("the other one has run", x.told(1, 1), 60);
    Due.is("the hour stays", x.count(2), 1);
    Due.is("heard stays", x.heard(), 3);
  }

  static void promise22RepairsOfADay() {
    LameClocks x = street("p0");
    x.paint(1, 5);
    Due.is("day", Due.day(x, "w0+3;t0+5;b1;h"), 4);
    Due.is("known", x.count(6), 3);
    x.undo();
    Due.is("dial", x.dial(1), 5);
    x.undo();
    Due.is("hands", x.told(0, 1), 0);
    x.undo();
    Due.is("spring", x.told(0, 2), 0);
  }

  // ---- 23

  static void promise23HowManyWereHome() {
    Due.is("no clock", new LameClocks().restart(), 0);
    LameClocks x = street("o0,o0,o0,o0,o0,o0,o0,o0,o0");
    Due.course(x, "--");
    Due.is("none", x.restart(), 0);
    x.hour();
    Due.is("nine", x.restart(), 9);
    Due.is("none then", x.restart(), 0);
  }

  static void promise23AllBeginAgain() {
    LameClocks x = street("c0,p0,p0*5");
    Due.skies(x, "r");
    Due.course(x, "---");
    x.hour();
    Due.is("one was home", x.restart(), 1);
    Due.is("hour", x.count(2), 0);
    Due.is("home", x.count(3), 0);
    Due.is("strokes", x.count(4), 0);
    Due.is("heard", x.heard(), 0);
    for (int c = 0; c < 3; c++) {
      Due.is("window", x.told(c, 3), 0);
      Due.is("finish", x.told(c, 4), -4);
      Due.is("place", x.place(c), 1);
    }
  }

  static void promise23DialsHandsSpringsStay() {
    LameClocks x = street("p0+5*9");
    x.bet(0, 3);
    x.hour();
    x.restart();
    Due.is("dial", x.dial(0), 0);
    Due.is("hands", x.told(0, 1), 65);
    Due.is("spring", x.told(0, 2), 8);
    Due.is("rate", x.rate(0), 5);
    Due.is("bets", x.count(5), 1);
    Due.is("windows", x.count(0), 8);
  }

  static void promise23AtTheLastHour() {
    LameClocks x = new LameClocks();
    Twins.LATE.to(x);
    Due.is("full", x.hour(), -3);
    x.restart();
    Due.is("no more full", x.hour() >= 0 ? 1 : 0, 1);
    Due.is("the hour", x.count(2), 1);
  }
}
