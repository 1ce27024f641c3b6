/** Promises 36 to 43: each sentence that names an edge or a refusal has a test of its own. */
public final class BetsEdgesTest {
  public static void main(String[] args) {
    Due.runAll(BetsEdgesTest.class);
  }

  private static LameClocks street(String text) {
    LameClocks x = new LameClocks();
    Due.street(x, text);
    return x;
  }

  private static LameClocks nine() {
    return street("o0,o0,o0,o0,o0,o0,o0,o0,o60");
  }

  // ---- 36

  static void promise36ClocksThatThereAreNot() {
    for (int b : Twins.BELOW_AND_FAR) Twins.refusedAlways("struck " + b, -1, x -> x.struck(b, 1, 0));
    Twins.refused("1 of none", -1, Twins.FRESH, x -> x.struck(1, 1, 0));
    Twins.refused("8 of three", -1, Twins.UNDER_WAY, x -> x.struck(8, 1, 0));
    Twins.refused("15 of three", -1, Twins.UNDER_WAY, x -> x.struck(15, 1, 0));
    Twins.refused("512 of nine", -1, Twins.FULL, x -> x.struck(512, 1, 0));
    Due.is("all of nine", nine().struck(511, 1, 1), 256);
    Due.is("the last of nine", nine().struck(256, 1, 1), 256);
    Due.is("none of none", new LameClocks().struck(0, 1, 0), 0);
  }

  static void promise36StrokesAre1To108() {
    for (int b : new int[] {0, 109, -1, Due.MIN, Due.MAX}) {
      for (Twins.Setup s : Twins.ALL) Twins.refused("strokes " + b, -1, s, x -> x.struck(0, b, 0));
      Twins.refused("strokes " + b, -1, Twins.FULL, x -> x.struck(511, b, 0));
    }
    Due.is("1", nine().struck(511, 1, 0), 1);
    Due.is("97: all", nine().struck(511, 97, 1), 511);
    Due.is("108", nine().struck(511, 108, 0), 0);
    Due.is("108", street("o0,o0,o0,o0,o0,o0,o0,o0,o0").struck(511, 108, 0), 1);
  }

  static void promise36What0To2() {
    for (int b : new int[] {3, -1, Due.MIN, Due.MAX}) {
      Twins.refused("what " + b, -1, Twins.UNDER_WAY, x -> x.struck(7, 1, b));
    }
    Due.is("how many", nine().struck(511, 13, 0), 8);
    Due.is("the least", nine().struck(511, 13, 1), 257);
    Due.is("sure", nine().struck(511, 13, 2), 256);
  }

  static void promise36NoneIfThereIsNoSet() {
    Due.is("how many", nine().struck(511, 2, 0), 0);
    Due.is("the least", nine().struck(511, 2, 1), -4);
    Due.is("sure", nine().struck(511, 2, 2), -4);
    Due.is("of no clock", new LameClocks().struck(0, 12, 0), 0);
    Due.is("of no clock", new LameClocks().struck(0, 12, 1), -4);
    Due.is("of no clock", new LameClocks().struck(0, 12, 2), -4);
  }

  static void promise36BadAheadOfNone() {
    Due.is("strokes", nine().struck(0, 109, 1), -1);
    Due.is("what", nine().struck(0, 1, 3), -1);
    Due.is("set", nine().struck(512, 2, 1), -1);
  }

  // ---- 37, 38, 39

  static void promise37NoSuchClock() {
    for (int c : Twins.BELOW_AND_FAR) Twins.refusedAlways("bet " + c, -1, x -> x.bet(c, 1));
    Twins.refused("of none", -1, Twins.FRESH, x -> x.bet(0, 1));
    Twins.refused("of three", -1, Twins.UNDER_WAY, x -> x.bet(3, 1));
    Due.is("the ninth", nine().bet(8, 1), 0);
    Due.is("a tenth", nine().bet(9, 1), -1);
  }

  static void promise37StakesAre1To999() {
    for (int b : new int[] {0, 1000, -1, Due.MIN, Due.MAX}) {
      Twins.refused("stake " + b, -1, Twins.UNDER_WAY, x -> x.bet(0, b));
    }
    LameClocks x = nine();
    Due.is("1", x.bet(0, 1), 0);
    Due.is("999", x.bet(0, 999), 1);
    Due.is("1", x.pays(0, 0), 1);
    Due.is("999", x.pays(1, 0), 999);
  }

  static void promise37FullAt6() {
    LameClocks x = nine();
    for (int b = 0; b < 6; b++) Due.is("bet", x.bet(b, 9), b);
    Due.is("a seventh", x.bet(0, 9), -3);
    Twins.refused("a seventh", -3, Twins.FULL, y -> y.bet(0, 1));
    x.settle();
    Due.is("again", x.bet(0, 9), 0);
  }

  static void promise37BadAheadOfFull() {
    Twins.refused("clock", -1, Twins.FULL, x -> x.bet(9, 1));
    Twins.refused("stake", -1, Twins.FULL, x -> x.bet(0, 0));
    Twins.refused("stake", -1, Twins.FULL, x -> x.bet(0, 1000));
  }

  static void promise38NoSuchBet() {
    for (int b : Twins.BELOW_AND_FAR) Twins.refusedAlways("pays " + b, -1, x -> x.pays(b, 0));
    Twins.refused("of none", -1, Twins.FRESH, x -> x.pays(0, 0));
    Twins.refused("of two", -1, Twins.UNDER_WAY, x -> x.pays(2, 0));
    Twins.refused("of six", -1, Twins.FULL, x -> x.pays(6, 0));
    LameClocks x = new LameClocks();
    Twins.FULL.to(x);
    Due.is("the first of six", x.pays(0, 0), 100);
    Due.is("the sixth", x.pays(5, 0), 105);
  }

  static void promise38NoSuchSet() {
    for (int b : Twins.BELOW_AND_FAR) {
      Twins.refused("set " + b, -1, Twins.UNDER_WAY, x -> x.pays(0, b));
      Twins.refused("set " + b, -1, Twins.FULL, x -> x.pays(0, b));
    }
    Twins.refused("a fourth of three", -1, Twins.UNDER_WAY, x -> x.pays(0, 8));
    Twins.refused("a tenth of nine", -1, Twins.FULL, x -> x.pays(0, 512));
    LameClocks x = new LameClocks();
    Twins.FULL.to(x);
    Due.is("none", x.pays(0, 0), 100);
    Due.is("all nine", x.pays(0, 511), 100);
    Due.is("the ninth alone", x.pays(5, 256), 615);
  }

  static void promise39HowManyThereWere() {
    Due.is("none", new LameClocks().settle(), 0);
    LameClocks x = new LameClocks();
    Twins.FULL.to(x);
    Due.is("six", x.settle(), 6);
    Due.is("none then", x.settle(), 0);
    Due.is("count", x.count(5), 0);
    Due.is("pays", x.pays(0, 0), -1);
  }

  // ---- 40, 41

  static void promise40HoursAre1To60() {
    for (int b : new int[] {0, 61, -1, Due.MIN, Due.MAX}) Twins.refusedAlways("lots " + b, -1, x -> x.lots(b));
    LameClocks x = new LameClocks();
    Due.is("1", x.lots(1), 0);
    Due.is("hour", x.count(2), 1);
    Due.is("60", x.lots(60), 0);
    Due.is("hour", x.count(2), 61);
  }

  static void promise40FullIfTheHourWouldBeAbove9999() {
    LameClocks x = street("o0");
    for (int i = 0; i < 165; i++) x.lots(60);
    Due.is("9900", x.lots(60) >= 0 ? x.count(2) : -1, 9960);
    int draw = x.seed(5);
    x.seed(draw);
    Due.is("to 10000", x.lots(40), -3);
    Due.is("to 10020", x.lots(60), -3);
    Due.is("the hour stays", x.count(2), 9960);
    Due.is("the draw stays", x.seed(draw), draw);
    Due.is("to 9999", x.lots(39), 0);
    Due.is("the hour", x.count(2), 9999);
    Twins.refused("lots 1", -3, Twins.LATE, y -> y.lots(1));
    Twins.refused("lots 60", -3, Twins.LATE, y -> y.lots(60));
  }

  static void promise40BadAheadOfFull() {
    Twins.refused("lots 0", -1, Twins.LATE, x -> x.lots(0));
    Twins.refused("lots 61", -1, Twins.LATE, x -> x.lots(61));
  }

  static void promise40HowManyGoInThese() {
    LameClocks x = street("o0,o0");
    Due.is("7 times 2", x.lots(60), 14);
    Due.is("all are home", x.lots(60), 0);
  }

  static void promise40ManyAreAsOneByOne() {
    Twins.alike("lots", x -> {
      Twins.UNDER_WAY.to(x);
      x.lots(9);
    }, x -> {
      Twins.UNDER_WAY.to(x);
      for (int i = 0; i < 9; i++) x.lots(1);
    });
  }

  static void promise41BadBelow0() {
    Twins.refusedAlways("-1", -1, x -> x.seed(-1));
    Twins.refusedAlways("the least", -1, x -> x.seed(Due.MIN));
    LameClocks x = new LameClocks();
    Due.is("0", x.seed(0), 1);
    Due.is("1", x.seed(1), 0);
    Due.is("the greatest", x.seed(Due.MAX), 1);
    Due.is("what it was", x.seed(7), Due.MAX);
  }

  // ---- 42, 43

  static void promise42AllButSheetsAndTheTapeIsKept() {
    Twins.Setup[] later = {x -> x.hour(), x -> x.strike(), x -> x.paint(0, 5), x -> x.settle(), x -> x.bet(1, 9),
        x -> x.lots(5), x -> x.seed(77), x -> x.restart(), x -> x.undo(), x -> x.wind(0, 9), x -> x.turn(1, 9),
        x -> x.tune(2, 9), x -> x.breathe(1), x -> x.clock(5, 1, 1, 1), x -> Due.course(x, "01"),
        x -> Due.course(x, "4".repeat(24)), x -> Due.street(x, "o0"), x -> Due.street(x, "o0,d9,t8,m7,p6"),
        x -> Due.skies(x, "n"), x -> Due.skies(x, "nwrsnwrsnwrs"), x -> Due.day(x, "h;w0+9;h"),
        BetsEdgesTest::otherBets, BetsEdgesTest::otherRepairs};
    for (int i = 0; i < later.length; i++) {
      Twins.Setup act = later[i];
      Twins.alike("behind act " + i, x -> {
        Twins.UNDER_WAY.to(x);
        x.image();
        act.to(x);
        Due.is("restore", x.restore(), 1);
      }, x -> {
        Twins.UNDER_WAY.to(x);
        x.image();
      });
    }
  }

  private static void otherBets(LameClocks x) {
    x.settle();
    for (int b = 0; b < 6; b++) x.bet(1, 300 + b);
  }

  private static void otherRepairs(LameClocks x) {
    for (int i = 0; i < 9; i++) x.undo();
    for (int i = 0; i < 3; i++) {
      x.paint(6, 2);
      x.breathe(6);
      x.turn(i, 77);
      x.wind(i, 7);
      x.tune(i, 17);
    }
  }

  static void promise42ChangesNothingElse() {
    for (Twins.Setup s : Twins.ALL) {
      Twins.alike("image", x -> {
        s.to(x);
        Due.is("image", x.image(), 1);
        Due.is("image", x.image(), 1);
      }, x -> {
        s.to(x);
        x.image();
      });
      LameClocks x = new LameClocks();
      LameClocks y = new LameClocks();
      s.to(x);
      s.to(y);
      x.image();
      Due.same("now", Due.state(x), Due.state(y));
    }
  }

  static void promise42TheLaterOneIsKept() {
    LameClocks x = street("o0");
    x.image();
    x.hour();
    x.image();
    x.hour();
    x.restore();
    Due.is("the hour", x.count(2), 1);
  }

  static void promise43NoneIfThereIsNone() {
    Twins.refused("restore", -4, Twins.FRESH, x -> x.restore());
    Twins.refused("restore", -4, Twins.LATE, x -> x.restore());
  }

  static void promise43AgainAndAgain() {
    LameClocks x = street("o0");
    x.image();
    for (int i = 0; i < 5; i++) {
      x.hour();
      x.hour();
      Due.is("restore", x.restore(), 1);
      Due.is("the hour", x.count(2), 0);
      Due.is("the window", x.told(0, 3), 0);
    }
  }

  static void promise43OfANewObject() {
    Twins.alike("as new", x -> {
      x.image();
      Due.street(x, "o0,o0,o0,o0,o0,o0,o0,o0,o0");
      Due.course(x, "3".repeat(24));
      Due.skies(x, "nnnnnnnnnnnn");
      x.bet(0, 5);
      x.tune(0, 5);
      x.lots(50);
      x.restore();
    }, x -> x.image());
  }

  static void promise43SheetsAndTheTapeStay() {
    LameClocks x = new LameClocks();
    x.sheet(1, 2, 5);
    x.type('s');
    x.image();
    x.type('r');
    x.drop(1);
    x.sheet(2, 2, 6);
    x.restore();
    Due.is("the tape", x.type('n'), 3);
    Due.is("its letters", x.skies(), 3);
    Due.is("a sheet that went", x.drop(1), -11);
    Due.is("a sheet that came", x.drop(2), 6);
  }
}
