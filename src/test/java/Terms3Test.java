/** "Terms", part 3 (who struck, bets, repairs, lots, texts): each sentence that names an edge has a test of its own. */
public final class Terms3Test {
  public static void main(String[] args) {
    Due.runAll(Terms3Test.class);
  }

  private static LameClocks street(String text) {
    LameClocks x = new LameClocks();
    Due.street(x, text);
    return x;
  }

  // ---- struck, bets

  static void terms3StruckHowManyTheLeastWhoSurely() {
    LameClocks x = street("o60,o60,o120,o180");
    // 3 strokes: {0, 2}, {1, 2}, {3}.
    Due.is("how many", x.struck(15, 3, 0), 3);
    Due.is("the least", x.struck(15, 3, 1), 5);
    Due.is("none is in all", x.struck(15, 3, 2), 0);
    Due.is("2 is in all of 0, 1, 2", x.struck(7, 3, 2), 4);
  }

  static void terms3StruckOfTheSetAlone() {
    LameClocks x = street("o60,o120,o180");
    Due.is("of 0 and 2", x.struck(5, 3, 1), 4);
    Due.is("of 0 and 1", x.struck(3, 3, 1), 3);
    Due.is("of 1 alone", x.struck(2, 3, 0), 0);
    Due.is("of none", x.struck(0, 3, 0), 0);
  }

  static void terms3StruckNow() {
    LameClocks x = street("p60*9,t0,d0");
    Due.is("now", x.struck(7, 1, 0), 2);
    Due.is("a sundial at 0", x.struck(7, 12, 1), 4);
    x.hour();
    Due.is("an hour later", x.struck(7, 1, 1), 4);
    Due.is("an hour later", x.struck(7, 2, 0), 2);
  }

  static void terms3StruckByAllNine() {
    LameClocks x = street("o0,o0,o0,o0,o0,o0,o0,o0,o0");
    Due.is("108", x.struck(511, 108, 0), 1);
    Due.is("108", x.struck(511, 108, 1), 511);
    Due.is("108", x.struck(511, 108, 2), 511);
    Due.is("107", x.struck(511, 107, 0), 0);
    Due.is("48: four of nine", x.struck(511, 48, 0), 126);
    Due.is("12: one of nine", x.struck(511, 12, 0), 9);
  }

  static void terms3BetsAre0To6() {
    LameClocks x = street("o0");
    Due.is("none", x.count(5), 0);
    Due.is("none", x.pays(0, 0), -1);
    for (int b = 0; b < 6; b++) Due.is("its number", x.bet(0, 1), b);
    Due.is("a seventh", x.bet(0, 1), -3);
    Due.is("how many", x.count(5), 6);
    Due.is("the sixth", x.pays(5, 0), 1);
    Due.is("no seventh", x.pays(6, 0), -1);
  }

  static void terms3BetsOf1To999() {
    LameClocks x = street("o0");
    Due.is("0", x.bet(0, 0), -1);
    Due.is("1000", x.bet(0, 1000), -1);
    Due.is("1", x.bet(0, 1), 0);
    Due.is("999", x.bet(0, 999), 1);
    Due.is("its stake", x.pays(0, 0), 1);
    Due.is("its stake", x.pays(1, 0), 999);
  }

  static void terms3EachWinnerHasItsPartCut() {
    LameClocks x = street("o0,o0,o0");
    int[][] bets = {{0, 7}, {1, 5}, {0, 1}, {2, 4}};
    for (int[] b : bets) x.bet(b[0], b[1]);
    int[][] parts = {{14, 0, 2, 0}, {0, 17, 0, 0}, {9, 6, 1, 0}, {0, 0, 0, 17}, {9, 0, 1, 5}, {0, 9, 0, 7}, {7, 5, 1, 4}};
    for (int set = 1; set <= 7; set++) {
      for (int b = 0; b < 4; b++) Due.is("bet " + b + " by " + set, x.pays(b, set), parts[set - 1][b]);
    }
  }

  static void terms3TheGreatestStakes() {
    LameClocks x = street("o0,o0");
    for (int b = 0; b < 5; b++) x.bet(0, 999);
    x.bet(1, 1);
    Due.is("all for 1", x.pays(5, 2), 4996);
    Due.is("a part", x.pays(0, 1), 999);
    Due.is("by both", x.pays(5, 3), 1);
    LameClocks y = street("o0");
    for (int b = 0; b < 6; b++) y.bet(0, 999);
    for (int b = 0; b < 6; b++) Due.is("a sixth of all", y.pays(b, 1), 999);
  }

  static void terms3EachHasItsOwnBackIfNoBetIsOnAWinner() {
    LameClocks x = street("o0,o0,o0");
    x.bet(0, 7);
    x.bet(1, 5);
    Due.is("2 wins", x.pays(0, 4), 7);
    Due.is("2 wins", x.pays(1, 4), 5);
    Due.is("none wins", x.pays(0, 0), 7);
    Due.is("1 and 2 win", x.pays(0, 6), 0);
    Due.is("1 and 2 win", x.pays(1, 6), 12);
  }

  // ---- repairs

  static void terms3ToWindMakes99AtMost() {
    LameClocks x = street("p0*98,p0*99,p0");
    Due.is("98 and 1", x.wind(0, 1), 99);
    Due.is("99 and 1", x.wind(1, 1), 99);
    Due.is("0 and 99", x.wind(2, 99), 99);
    Due.is("99 and 99", x.wind(2, 99), 99);
    Due.is("what is cut is undone whole", x.undo(), 3);
    Due.is("spring", x.told(2, 2), 99);
    x.undo();
    Due.is("spring", x.told(2, 2), 0);
    x.undo();
    Due.is("spring", x.told(1, 2), 99);
    x.undo();
    Due.is("spring", x.told(0, 2), 98);
  }

  static void terms3ToTurnGoesOverThe12() {
    LameClocks x = street("p0,p1,p719");
    Due.is("0 and 719", x.turn(0, 719), 719);
    Due.is("719 and 1", x.turn(0, 1), 0);
    Due.is("1 and 719", x.turn(1, 719), 0);
    Due.is("719 and 719", x.turn(2, 719), 718);
  }

  static void terms3TenRepairsAreKnown() {
    LameClocks x = street("p0");
    for (int i = 1; i <= 10; i++) x.turn(0, 1);
    Due.is("ten", x.count(6), 10);
    for (int i = 9; i >= 0; i--) {
      Due.is("undo", x.undo(), i);
      Due.is("hands", x.told(0, 1), i);
    }
    Due.is("no more", x.undo(), -4);
  }

  static void terms3OfElevenRepairsTheOldestIsLost() {
    LameClocks x = street("p0*5,p0");
    x.wind(0, 1);
    x.tune(1, 7);
    for (int i = 1; i <= 9; i++) x.turn(0, 1);
    Due.is("ten", x.count(6), 10);
    for (int i = 9; i >= 0; i--) Due.is("undo", x.undo(), i);
    Due.is("the second is undone", x.rate(1), 0);
    Due.is("the first is not", x.told(0, 2), 6);
    Due.is("no more", x.undo(), -4);
    Due.is("no more", x.told(0, 2), 6);
  }

  static void terms3TenMoreBehindSomeThatWereUndone() {
    LameClocks x = street("p0");
    for (int i = 0; i < 10; i++) x.turn(0, 1);
    for (int i = 0; i < 4; i++) x.undo();
    for (int i = 0; i < 5; i++) x.turn(0, 100);
    Due.is("ten", x.count(6), 10);
    for (int i = 4; i >= 0; i--) {
      x.undo();
      Due.is("hands", x.told(0, 1), 6 + 100 * i);
    }
    for (int i = 5; i >= 1; i--) {
      x.undo();
      Due.is("hands", x.told(0, 1), i);
    }
    Due.is("the oldest is lost", x.undo(), -4);
  }

  static void terms3HoursThatGoByDoNotMatter() {
    LameClocks x = street("p0*9,o0");
    x.paint(7, 3);
    x.wind(0, 5);
    x.turn(0, 30);
    x.tune(0, 9);
    x.breathe(7);
    x.hour();
    x.lots(2);
    Due.is("four are known", x.count(6), 4);
    x.undo();
    Due.is("dial", x.dial(7), 3);
    x.undo();
    Due.is("rate", x.rate(0), 0);
    x.undo();
    Due.is("hands", x.told(0, 1), 0);
    x.undo();
    Due.is("spring", x.told(0, 2), 9);
  }

  static void terms3WhatLeavesNothingToBeUndone() {
    Twins.Setup[] acts = {x -> x.strike(), x -> x.restart(), x -> Due.course(x, "--"), x -> Due.street(x, "p0")};
    for (int i = 0; i < acts.length; i++) {
      LameClocks x = street("p0,p0");
      x.tune(0, 5);
      acts[i].to(x);
      Due.is("count behind " + i, x.count(6), 0);
      Due.is("undo behind " + i, x.undo(), -4);
    }
  }

  static void terms3WhatLeavesRepairsToBeUndone() {
    Twins.Setup[] acts = {x -> x.clock(0, 0, 0, 0), x -> x.paint(0, 3), x -> Due.skies(x, "rr"), x -> x.hour(),
        x -> x.lots(60), x -> x.bet(0, 1), x -> x.settle(), x -> x.seed(9), x -> x.image(), x -> Due.day(x, "h"),
        x -> x.sheet(0, 0, 9), x -> x.type('s'), x -> Due.course(x, "-"), x -> Due.street(x, "p"), x -> x.behind(0, 9, 0)};
    for (int i = 0; i < acts.length; i++) {
      LameClocks x = street("p0,p0");
      x.tune(0, 5);
      acts[i].to(x);
      Due.is("count behind " + i, x.count(6), 1);
      Due.is("undo behind " + i, x.undo(), 0);
      Due.is("undone behind " + i, x.rate(0), 0);
    }
  }

  static void terms3StrikeThatIsRefusedLeavesRepairs() {
    LameClocks x = new LameClocks();
    x.paint(1, 4);
    x.breathe(1);
    Due.is("there is no clock", x.strike(), -4);
    Due.is("undo", x.undo(), 0);
    Due.is("dial", x.dial(1), 4);
  }

  // ---- lots

  private static long next(long draw) {
    return (draw * 1103515245L + 12345L) & 0x7fffffffL;
  }

  static void terms3TheDrawIs1AtFirst() {
    Due.is("the draw", new LameClocks().seed(0), 1);
  }

  static void terms3TheDrawHas31Bits() {
    for (int seed : new int[] {0, 1, 2, 65535, 65536, 0x3fffffff, 0x40000000, Due.MAX - 1, Due.MAX}) {
      LameClocks x = new LameClocks();
      x.seed(seed);
      long draw = seed;
      for (int h = 0; h < 20; h++) {
        x.lots(1);
        draw = next(draw);
        Due.is("from " + seed + " behind " + h, x.seed((int) draw), draw);
      }
    }
  }

  static void terms3TheDrawTellsTheWeather() {
    for (int seed = 0; seed < 40; seed++) {
      LameClocks x = street("d0,c0,p0");
      x.seed(seed * 53687091);
      int weather = (int) (next(seed * 53687091L) / 65536 % 4);
      Due.is("who goes", x.lots(1), weather == 0 ? 3 : 2);
      Due.is("the cuckoo", x.told(1, 3), weather == 1 ? 2 : 1);
      Due.is("who is heard", x.heard(), weather == 0 ? 7 : weather == 2 ? 0 : 6);
    }
  }

  static void terms3HoursByTheRowLeaveTheDraw() {
    LameClocks x = street("p0");
    x.hour();
    x.over();
    Due.is("the draw", x.seed(1), 1);
  }

  // ---- texts: a course, weather

  static void terms3ACourseOf2To24Signs() {
    for (int many = 0; many <= 26; many++) {
      LameClocks x = new LameClocks();
      int due = many < 2 ? -20 - many : many > 24 ? -44 : many;
      Due.is(many + " signs", Due.course(x, "3".repeat(many)), due);
      Due.is("windows", x.count(0), due < 0 ? 8 : many);
      Due.is("the last", x.dial(x.count(0) - 1), due < 0 ? 12 : 3);
      Due.is("none behind it", x.dial(x.count(0)), -1);
    }
  }

  static void terms3TheSignsOfACourse() {
    for (char sign = 33; sign < 127; sign++) {
      LameClocks x = new LameClocks();
      int dial = "0123456789ab-".indexOf(sign);
      Due.is("sign " + sign, Due.course(x, "00" + sign), dial < 0 ? -22 : 3);
      Due.is("dial", x.dial(2), dial < 0 ? 12 : dial);
    }
  }

  static void terms3ACourseIsInPlaceOfAllWindows() {
    LameClocks x = new LameClocks();
    Due.course(x, "5".repeat(24));
    Due.is("fewer", Due.course(x, "12"), 2);
    Due.is("again more", Due.course(x, "---"), 3);
    for (int w = 0; w < 3; w++) Due.is("dial", x.dial(w), 12);
    Due.is("no fourth", x.dial(3), -1);
  }

  static void terms3ByACourseNoneIsHomeAndTheHourStays() {
    LameClocks x = street("c0,p0");
    Due.skies(x, "r");
    Due.course(x, "---");
    x.hour();
    Due.is("home", x.count(3), 1);
    Due.is("two windows: where the other one stands is not home", Due.course(x, "--"), 2);
    Due.is("home", x.count(3), 0);
    Due.is("the hour", x.count(2), 1);
    for (int c = 0; c < 2; c++) {
      Due.is("window", x.told(c, 3), 0);
      Due.is("finish", x.told(c, 4), -4);
      Due.is("place", x.place(c), 1);
    }
  }

  static void terms3WeatherOf1To12Signs() {
    for (int many = 0; many <= 14; many++) {
      LameClocks x = new LameClocks();
      int due = many < 1 ? -20 : many > 12 ? -32 : many;
      Due.is(many + " signs", Due.skies(x, "n".repeat(many)), due);
      Due.is("the last", x.weather(Math.max(0, many - 1)), due < 0 ? 0 : 3);
    }
  }

  static void terms3TheSignsOfWeather() {
    for (char sign = 33; sign < 127; sign++) {
      LameClocks x = new LameClocks();
      int weather = "srwn".indexOf(sign);
      Due.is("sign " + sign, Due.skies(x, "n" + sign), weather < 0 ? -21 : 2);
      Due.is("weather", x.weather(1), Math.max(0, weather));
    }
  }

  // ---- texts: a street

  static void terms3AStreetOf1To9Clocks() {
    for (int many = 1; many <= 11; many++) {
      LameClocks x = new LameClocks();
      StringBuilder text = new StringBuilder();
      for (int i = 0; i < many; i++) text.append(i == 0 ? "" : ",").append("p").append(i % 10);
      // Behind nine clocks (26 letters) no comma can stand.
      Due.is(many + " clocks", Due.street(x, text.toString()), many <= 9 ? many : -46);
      Due.is("clocks", x.count(1), many <= 9 ? many : 0);
    }
    Due.is("no clock", Due.street(new LameClocks(), ""), -20);
  }

  static void terms3TheKindsOfAStreet() {
    for (char sign = 33; sign < 127; sign++) {
      LameClocks x = new LameClocks();
      int kind = "pcodtm".indexOf(sign);
      Due.is("sign " + sign, Due.street(x, sign + "0"), kind < 0 ? -20 : 1);
      Due.is("kind", x.told(0, 0), kind < 0 ? -1 : kind);
    }
  }

  /** The text of one clock: its fault, or 1 and what it has. */
  private static void clock(String text, int due, int hands, int rate, int spring) {
    LameClocks x = new LameClocks();
    Due.is("street " + text, Due.street(x, text), due);
    if (due < 0) return;
    Due.is("hands of " + text, x.told(0, 1), hands);
    Due.is("rate of " + text, x.rate(0), rate);
    Due.is("spring of " + text, x.told(0, 2), spring);
  }

  static void terms3HandsOfAStreetAre0To719() {
    clock("p0", 1, 0, 0, 0);
    clock("p719", 1, 719, 0, 0);
    clock("p720", -21, 0, 0, 0);
    clock("p-1", -21, 0, 0, 0);
    clock("p+1", -21, 0, 0, 0);
    clock("p", -21, 0, 0, 0);
    clock("p7190", -21, 0, 0, 0);
  }

  static void terms3RatesOfAStreetAreMinus30To30() {
    clock("p1+0", 1, 1, 0, 0);
    clock("p1-0", 1, 1, 0, 0);
    clock("p1+30", 1, 1, 30, 0);
    clock("p1-30", 1, 1, -30, 0);
    clock("p1+31", -23, 0, 0, 0);
    clock("p1-31", -23, 0, 0, 0);
    clock("p1+", -23, 0, 0, 0);
    clock("p1-", -23, 0, 0, 0);
    clock("p1+-1", -23, 0, 0, 0);
    clock("p1+1-1", -24, 0, 0, 0);
  }

  static void terms3SpringsOfAStreetAre0To99() {
    clock("p1*0", 1, 1, 0, 0);
    clock("p1*99", 1, 1, 0, 99);
    clock("p1*100", -23, 0, 0, 0);
    clock("p1*", -23, 0, 0, 0);
    clock("p1*-1", -23, 0, 0, 0);
    clock("p1*1*1", -24, 0, 0, 0);
  }

  static void terms3RateAheadOfSpring() {
    clock("p1+2*3", 1, 1, 2, 3);
    clock("p1-2*3", 1, 1, -2, 3);
    clock("p1*3+2", -24, 0, 0, 0);
  }

  static void terms3NumbersThatAreVeryLong() {
    clock("p" + "0".repeat(100) + "719", 1, 719, 0, 0);
    clock("p" + "9".repeat(150), -21, 0, 0, 0);
    clock("p4294967296", -21, 0, 0, 0);
    clock("p18446744073709551616", -21, 0, 0, 0);
    clock("p0+4294967297", -23, 0, 0, 0);
    clock("p0*2147483648", -23, 0, 0, 0);
    clock("p100000", -21, 0, 0, 0);
    clock("p1000000", -21, 0, 0, 0);
  }

  static void terms3AStreetIsInPlaceOfAllClocksAndBets() {
    LameClocks x = street("o0,o0,o0");
    x.bet(0, 1);
    x.bet(2, 1);
    x.hour();
    Due.is("heard", x.heard(), 7);
    Due.is("strokes", x.count(4), 36);
    Due.is("street", Due.street(x, "o60,o60"), 2);
    Due.is("clocks", x.count(1), 2);
    Due.is("no third", x.told(2, 0), -1);
    Due.is("bets", x.count(5), 0);
    Due.is("nothing was heard", x.heard(), 0);
    Due.is("no strokes", x.count(4), 0);
    Due.is("at window 0", x.told(0, 3), 0);
    Due.is("the hour stays", x.count(2), 1);
    Due.is("dials stay", x.dial(0), 0);
  }

  // ---- texts: a day

  private static LameClocks forADay() {
    LameClocks x = street("p0,p0,p0,p0,p0,p0,p0,p0,p0");
    x.paint(0, 1);
    x.paint(7, 1);
    return x;
  }

  static void terms3ADayWindsBy1To99() {
    Due.is("0", Due.day(forADay(), "w0+0"), -23);
    Due.is("1", Due.day(forADay(), "w0+1"), 1);
    Due.is("99", Due.day(forADay(), "w0+99"), 1);
    Due.is("100", Due.day(forADay(), "w0+100"), -23);
    Due.is("none", Due.day(forADay(), "w0+"), -23);
    Due.is("-1", Due.day(forADay(), "w0+-1"), -23);
    Due.is("less", Due.day(forADay(), "w0-1"), -22);
  }

  static void terms3ADayTurnsBy1To719() {
    Due.is("0", Due.day(forADay(), "t0+0"), -23);
    Due.is("1", Due.day(forADay(), "t0+1"), 1);
    Due.is("719", Due.day(forADay(), "t0+719"), 1);
    Due.is("720", Due.day(forADay(), "t0+720"), -23);
    Due.is("none", Due.day(forADay(), "t0+"), -23);
  }

  static void terms3AClockOfADayIsOneDigit() {
    for (String act : new String[] {"w", "t"}) {
      Due.is("0", Due.day(forADay(), act + "0+1"), 1);
      Due.is("8", Due.day(forADay(), act + "8+1"), 1);
      Due.is("9 names nothing: the act is refused", Due.day(forADay(), act + "9+1"), 0);
      Due.is("two digits", Due.day(forADay(), act + "10+1"), -22);
      Due.is("no digit", Due.day(forADay(), act + "+1"), -21);
      Due.is("a letter", Due.day(forADay(), act + "a+1"), -21);
      Due.is("the end", Due.day(forADay(), act), -21);
      Due.is("the end behind it", Due.day(forADay(), act + "0"), -22);
    }
  }

  static void terms3AWindowOfADayIsANumber() {
    Due.is("0", Due.day(forADay(), "b0"), 1);
    Due.is("7", Due.day(forADay(), "b7"), 1);
    Due.is("007", Due.day(forADay(), "b007"), 1);
    Due.is("8 names nothing: the act is refused", Due.day(forADay(), "b8"), 0);
    Due.is("a long one", Due.day(forADay(), "b4294967296"), 0);
    Due.is("a long one", Due.day(forADay(), "b18446744073709551623"), 0);
    Due.is("none", Due.day(forADay(), "b"), -21);
    Due.is("-1", Due.day(forADay(), "b-1"), -21);
  }

  static void terms3TheActsOfADay() {
    for (char sign = 33; sign < 127; sign++) {
      int due = sign == 'h' ? 1 : sign == 'w' || sign == 't' || sign == 'b' ? -21 : -20;
      Due.is("sign " + sign, Due.day(forADay(), "" + sign), due);
    }
    Due.is("an hour and something", Due.day(forADay(), "h1"), -21);
    Due.is("two without a ;", Due.day(forADay(), "hh"), -21);
  }

  static void terms3ADayHasAtLeastOneAct() {
    Due.is("none", Due.day(forADay(), ""), -20);
    Due.is("a ; alone", Due.day(forADay(), ";"), -20);
    Due.is("nothing behind a ;", Due.day(forADay(), "h;"), -22);
    Due.is("nothing between two", Due.day(forADay(), "h;;h"), -22);
    Due.is("a comma", Due.day(forADay(), "h,h"), -21);
  }

  static void terms3ADayOfAFullTape() {
    LameClocks x = forADay();
    Due.is("80 hours", Due.day(x, "h;".repeat(79) + "h "), 80);
    Due.is("the hour", x.count(2), 80);
    Due.is("80 and the end", Due.day(x, "h;".repeat(80)), -180);
    Due.is("the hour", x.count(2), 80);
  }

  // ---- texts: faults

  static void terms3FaultsAreMinus20LessThePlace() {
    Due.is("place 0", Due.course(new LameClocks(), "x00"), -20);
    Due.is("place 1", Due.course(new LameClocks(), "0x0"), -21);
    Due.is("place 2", Due.course(new LameClocks(), "00x"), -22);
    Due.is("the first of two", Due.course(new LameClocks(), "0xx"), -21);
    Due.is("place 159", Due.street(new LameClocks(), "p" + "0".repeat(158) + "x"), -179);
  }

  static void terms3BlanksDoNotCount() {
    Due.is("ahead of it", Due.course(new LameClocks(), "  0 0  x"), -22);
    Due.is("behind it", Due.course(new LameClocks(), "x   "), -20);
    Due.is("the end", Due.course(new LameClocks(), " 0  "), -21);
    Due.is("blanks alone", Due.course(new LameClocks(), "    "), -20);
    Due.is("weather", Due.skies(new LameClocks(), " s  x"), -21);
    Due.is("a street", Due.street(new LameClocks(), " p 0 + x"), -23);
    Due.is("a day", Due.day(new LameClocks(), " h ; x"), -22);
    Due.is("160 blanks", Due.skies(new LameClocks(), " ".repeat(160)), -20);
  }

  static void terms3BlanksMayStandAnywhereButInANumber() {
    LameClocks x = new LameClocks();
    Due.is("a street", Due.street(x, " p 12 + 3 * 4 , c 5 "), 2);
    Due.is("hands", x.told(0, 1), 12);
    Due.is("rate", x.rate(0), 3);
    Due.is("spring", x.told(0, 2), 4);
    Due.is("a day", Due.day(x, " w 0 + 5 ; t 1 + 7 ; h "), 3);
    Due.is("spring", x.told(0, 2), 8);
    Due.is("a course", Due.course(x, " - 1 "), 2);
    Due.is("weather", Due.skies(x, " s n "), 2);
  }

  static void terms3BlanksEndANumber() {
    Due.is("hands", Due.street(new LameClocks(), "p1 2"), -22);
    Due.is("rate", Due.street(new LameClocks(), "p1+1 2"), -24);
    Due.is("spring", Due.street(new LameClocks(), "p1*1 2"), -24);
    Due.is("turned", Due.day(forADay(), "t0+1 2"), -24);
    Due.is("wound", Due.day(forADay(), "w0+1 2"), -24);
    Due.is("a window", Due.day(forADay(), "b1 2"), -22);
    Due.is("the number ahead of the blank may not be", Due.street(new LameClocks(), "p720 1"), -21);
  }

  static void terms3TheFaultOfTheEndIsHowManyThereAre() {
    Due.is("0", new LameClocks().course(), -20);
    Due.is("0", new LameClocks().skies(), -20);
    Due.is("0", new LameClocks().street(), -20);
    Due.is("0", new LameClocks().day(), -20);
    Due.is("1", Due.course(new LameClocks(), "5"), -21);
    Due.is("3", Due.street(new LameClocks(), "p0,"), -23);
    Due.is("160", Due.street(new LameClocks(), "p" + "0".repeat(158) + "+"), -180);
  }

  static void terms3ANumberThatMayNotBeIsAFaultAtItsFirst() {
    Due.is("hands", Due.street(new LameClocks(), "p1000x"), -21);
    Due.is("rate", Due.street(new LameClocks(), "p1+ 99x"), -23);
    Due.is("spring", Due.street(new LameClocks(), "p1* 999x"), -23);
    Due.is("of the second clock", Due.street(new LameClocks(), "p1,p 720"), -24);
    Due.is("wound", Due.day(forADay(), "w0+ 100;x"), -23);
    Due.is("turned", Due.day(forADay(), "h;t0+ 720;x"), -25);
  }
}
