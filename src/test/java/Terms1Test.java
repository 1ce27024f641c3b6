/** "Terms", refusals and part 1: each sentence that names an edge has a test of its own, named by its part. */
public final class Terms1Test {
  private static final String KINDS = "pcodtm";
  private static final String WEATHERS = "srwn";

  public static void main(String[] args) {
    Due.runAll(Terms1Test.class);
  }

  private static LameClocks race(String course, String skies, String street) {
    LameClocks x = new LameClocks();
    if (!course.isEmpty()) Due.course(x, course);
    if (!skies.isEmpty()) Due.skies(x, skies);
    if (!street.isEmpty()) Due.street(x, street);
    return x;
  }

  private static String sign(int dial) {
    return "0123456789ab-".substring(dial, dial + 1);
  }

  private static void hours(LameClocks x, int n) {
    for (int h = 0; h < n; h++) x.hour();
  }

  /** From the hour 0 on, by 60s and what is left: at most 167 calls. */
  private static void toHour(LameClocks x, int hour) {
    for (int h = 0; h < hour; h += 60) x.lots(Math.min(60, hour - h));
  }

  // ---- refusals

  static void termsRefusalsAreTheseNumbers() {
    Due.is("BAD", LameClocks.BAD, -1);
    Due.is("NOT", LameClocks.NOT, -2);
    Due.is("FULL", LameClocks.FULL, -3);
    Due.is("NONE", LameClocks.NONE, -4);
    Due.is("NULL", LameClocks.NULL, -11);
    Due.is("CAST", LameClocks.CAST, -12);
    Due.is("INDEX", LameClocks.INDEX, -13);
    Due.is("SIZE", LameClocks.SIZE, -14);
  }

  static void termsRefusalsAre1000LessWhereLessThan0MayBeTold() {
    LameClocks x = race("", "", "p0-1");
    Due.is("a rate of -1", x.rate(0), -1);
    Due.is("no such clock", x.rate(1), -1001);
    Due.is("a rate that was -1", x.tune(0, -2), -1);
    Due.is("no such clock", x.tune(1, 0), -1001);
    Due.is("no such rate", x.tune(0, 31), -1001);
    Due.is("what is not below 0 has no 1000", x.told(1, 1), -1);
  }

  static void termsRefusalsOfSheetsInTheirOrder() {
    LameClocks x = new LameClocks();
    x.sheet(0, 0, 1);
    Due.is("bad ahead of null", x.item(1, 4, 9, 0), -1);
    Due.is("null ahead of cast and index", x.item(1, 3, 9, 0), -11);
    Due.is("cast ahead of index", x.item(0, 3, 9, 0), -12);
    Due.is("index", x.item(0, 0, 9, 0), -13);
    Due.is("bad ahead of size", x.sheet(4, 0, -1), -1);
    Due.is("size", x.sheet(0, 0, -1), -14);
  }

  static void termsSetsAreBits() {
    for (int c = 0; c < 9; c++) {
      LameClocks x = new LameClocks();
      Due.course(x, "-5--");
      for (int k = 0; k < 9; k++) x.clock(2, k == c ? 300 : 0, 0, 0);
      x.bet(c, 7);
      x.bet((c + 1) % 9, 2);
      Due.is("struck " + c, x.struck(511, 5, 1), 1 << c);
      Due.is("leads " + c, x.leads(1), 1 << c);
      Due.is("goes " + c, x.hour(), 1);
      Due.is("heard " + c, x.heard(), 1 << c);
      Due.is("wins " + c, x.pays(0, 1 << c), 9);
    }
  }

  static void termsDivisionsAreCut() {
    LameClocks x = race("", "", "p59,p119,p719");
    Due.is("59 by 60", x.told(0, 6), 0);
    Due.is("119 by 60", x.told(1, 6), 1);
    Due.is("719 by 60", x.told(2, 6), 11);
    x.bet(0, 2);
    x.bet(0, 1);
    x.bet(1, 5);
    Due.is("8 times 2 by 3", x.pays(0, 1), 5);
    Due.is("8 times 1 by 3", x.pays(1, 1), 2);
  }

  // ---- part 1: windows

  static void terms1Windows0To7AtFirstWithNoDial() {
    LameClocks x = new LameClocks();
    Due.is("how many", x.count(0), 8);
    for (int w = 0; w < 8; w++) Due.is("dial " + w, x.dial(w), 12);
    Due.is("none below 0", x.dial(-1), -1);
    Due.is("none above 7", x.dial(8), -1);
  }

  static void terms1TheLastWindowIsHome() {
    for (int windows : new int[] {2, 3, 8, 23, 24}) {
      LameClocks x = race("-".repeat(windows), "", "o0");
      for (int h = 1; h < windows - 1; h++) {
        Due.is("goes", x.hour(), 1);
        Due.is("is not home", x.count(3), 0);
      }
      Due.is("goes home", x.hour(), 1);
      Due.is("is home", x.count(3), 1);
      Due.is("its window", x.told(0, 3), windows - 1);
      Due.is("goes no more", x.hour(), 0);
      Due.is("its window", x.told(0, 3), windows - 1);
      Due.is("finish", x.told(0, 4), windows - 1);
    }
  }

  static void terms1DialsAre0To11OrNone() {
    for (int dial = 0; dial <= 12; dial++) {
      LameClocks x = race("-" + sign(dial), "", "");
      Due.is("by a course", x.dial(1), dial);
      Due.is("painted", x.paint(0, dial), 12);
      Due.is("painted", x.dial(0), dial);
    }
  }

  // ---- part 1: clocks, hours, weather

  static void terms1Clocks0To8AsTheyCome() {
    LameClocks x = new LameClocks();
    for (int c = 0; c < 9; c++) {
      Due.is("not yet", x.told(c, 1), -1);
      Due.is("its number", x.clock(2, 60 * c, 0, 0), c);
      Due.is("its hands", x.told(c, 1), 60 * c);
    }
    Due.is("no tenth", x.clock(2, 0, 0, 0), -3);
    Due.is("no tenth", x.told(9, 1), -1);
  }

  static void terms1ClocksAreAtWindow0AtFirst() {
    LameClocks x = race("--", "", "p0");
    x.hour();
    x.clock(0, 0, 0, 0);
    Due.is("one that comes late", x.told(1, 3), 0);
    Due.is("is not home", x.told(1, 4), -4);
    x.strike();
    x.strike();
    x.clock(0, 0, 0, 0);
    Due.is("in place of one that was home", x.told(0, 3), 0);
    Due.is("is not home", x.told(0, 4), -4);
  }

  static void terms1TheHourIs0AtFirst() {
    LameClocks x = new LameClocks();
    Due.is("the hour", x.count(2), 0);
    x.hour();
    Due.is("the hour", x.count(2), 1);
  }

  static void terms1TrueIsLeftOverBy720() {
    LameClocks x = race("-5", "", "d719");
    for (int h = 0; h <= 36; h++) {
      Due.is("true in hour " + h, x.told(0, 5), 60 * (h % 12));
      Due.is("struck in hour " + h, x.told(0, 6), h % 12);
      x.lots(1);
    }
  }

  static void terms1TrueInTheLastHour() {
    LameClocks x = new LameClocks();
    toHour(x, 9999);
    x.clock(3, 0, 0, 0);
    Due.is("true", x.told(0, 5), 180);
    Due.is("right in 200 more", x.right(0, 200), 200);
  }

  static void terms1SunAloneAtFirst() {
    LameClocks x = race("", "", "d0");
    for (int h : new int[] {0, 1, 2, 3, 11, 12, 9999}) Due.is("weather", x.weather(h), 0);
    for (int h = 0; h < 7; h++) Due.is("a sundial goes", x.hour(), 1);
  }

  static void terms1TheRowOfWeatherBeginsAgain() {
    for (int many = 1; many <= 12; many++) {
      StringBuilder row = new StringBuilder();
      for (int i = 0; i < many; i++) row.append(WEATHERS.charAt(i * i % 4 == 1 ? 3 : (i + 2) % 4));
      LameClocks x = race("", row.toString(), "");
      for (int h : new int[] {0, many - 1, many, many + 1, 2 * many - 1, 2 * many, 9998, 9999}) {
        Due.is(row + " in hour " + h, x.weather(h), WEATHERS.indexOf(row.charAt(h % many)));
      }
    }
  }

  static void terms1TheRowGoesByTheHourThatIsCounted() {
    LameClocks x = race("------", "n", "d0");
    hours(x, 3);
    Due.skies(x, "nnns");
    Due.is("hour 3 is the fourth of the row", x.hour(), 1);
    for (int h = 4; h < 7; h++) Due.is("hour " + h, x.hour(), 0);
    Due.is("hour 7", x.hour(), 1);
  }

  static void terms1FourKindsOfWeather() {
    LameClocks x = race("", "srwn", "");
    for (int h = 0; h < 4; h++) Due.is("weather", x.weather(h), h);
  }

  // ---- part 1: what is shown, struck

  static void terms1ShownByKinds() {
    LameClocks x = race("-5", "n", "p100,c200,o300,d400,m500");
    x.lots(2);
    int[] shown = {100, 200, 300, 120, 500};
    for (int c = 0; c < 5; c++) Due.is("shown " + c, x.told(c, 5), shown[c]);
  }

  static void terms1ATwinShowsWhatTheOneAheadOfItShows() {
    for (int kind = 0; kind < 6; kind++) {
      LameClocks x = race("-5", "n", KINDS.charAt(kind) + "100,t200,t300");
      x.lots(3);
      int shown = kind == 3 ? 180 : 100;
      for (int c = 0; c < 3; c++) Due.is("shown by " + c + " behind kind " + kind, x.told(c, 5), shown);
      Due.is("its own hands stay", x.told(2, 1), 300);
    }
  }

  static void terms1EightTwinsInARow() {
    LameClocks x = race("", "", "t61,t0,t0,t0,t0,t0,t0,t0,t0");
    for (int c = 0; c < 9; c++) Due.is("shown by " + c, x.told(c, 5), 61);
    LameClocks y = race("", "", "p5,t0,t0,t0,p661,t0,t0,t0,t0");
    for (int c = 0; c < 9; c++) Due.is("shown by " + c, y.told(c, 5), c < 4 ? 5 : 661);
  }

  static void terms1TheTwin0ShowsItsOwnHands() {
    LameClocks x = race("-5", "", "t130*2");
    Due.is("shown", x.told(0, 5), 130);
    x.hour();
    Due.is("shown", x.told(0, 5), 190);
  }

  static void terms1StrikesWhatIsShownBy60() {
    int[] hands = {0, 59, 60, 119, 120, 599, 600, 659, 660};
    int[] strikes = {0, 0, 1, 1, 2, 9, 10, 10, 11};
    LameClocks x = new LameClocks();
    for (int c = 0; c < 9; c++) x.clock(0, hands[c], 0, 0);
    for (int c = 0; c < 9; c++) Due.is("of " + hands[c], x.told(c, 6), strikes[c]);
    LameClocks y = race("", "", "o719");
    Due.is("of 719", y.told(0, 6), 11);
  }

  static void terms1StrokesAre12For0() {
    for (int struck = 0; struck < 12; struck++) {
      LameClocks x = race("", "", "o" + (60 * struck + 59));
      x.hour();
      Due.is("strokes for " + struck, x.count(4), struck == 0 ? 12 : struck);
    }
  }

  // ---- part 1: who goes

  static void terms1GoesByNoneOrByWhatItStrikes() {
    for (int struck = 0; struck < 12; struck++) {
      for (int dial = 0; dial <= 12; dial++) {
        LameClocks x = race("-" + sign(dial) + "-", "", "o" + 60 * struck);
        boolean goes = dial == 12 || dial == struck;
        Due.is(struck + " at " + dial, x.hour(), goes ? 1 : 0);
        Due.is("its window", x.told(0, 3), goes ? 1 : 0);
        Due.is("what it leaves", x.dial(0), goes ? struck : 12);
        Due.is("where it comes to", x.dial(1), dial);
      }
    }
  }

  static void terms1ASundialGoesInSunAlone() {
    for (int weather = 0; weather < 4; weather++) {
      for (String dial : new String[] {"0", "-"}) {
        LameClocks x = race("-" + dial + "-", WEATHERS.substring(weather, weather + 1), "d300");
        Due.is("weather " + weather + " at " + dial, x.hour(), weather == 0 ? 1 : 0);
      }
    }
  }

  static void terms1AllOtherKindsGoInAnyWeather() {
    for (int kind = 0; kind < 6; kind++) {
      if (kind == 3) continue;
      for (int weather = 0; weather < 4; weather++) {
        for (String dial : new String[] {"2", "-"}) {
          LameClocks x = race("-" + dial + "-", WEATHERS.substring(weather, weather + 1), KINDS.charAt(kind) + "120");
          Due.is("kind " + kind + " weather " + weather + " at " + dial, x.hour(), 1);
        }
      }
    }
  }

  static void terms1ATwinOfASundialGoesInAnyWeather() {
    for (int weather = 0; weather < 4; weather++) {
      LameClocks x = race("-0-", WEATHERS.substring(weather, weather + 1), "d0,t300,t300");
      Due.is("weather " + weather, x.hour(), weather == 0 ? 3 : 2);
    }
  }

  static void terms1AMayorGoesInHoursThatCanBeDividedBy6() {
    LameClocks x = race("-5555555", "", "m0");
    int window = 0;
    for (int h = 0; h <= 30; h++) {
      Due.is("hour " + h, x.hour(), h % 6 == 0 ? 1 : 0);
      if (h % 6 == 0) window++;
      Due.is("its window", x.told(0, 3), window);
    }
  }

  static void terms1AMayorGoesThenInAnyWeather() {
    for (String weather : new String[] {"s", "r", "w", "n"}) {
      LameClocks x = race("-55", weather, "m0");
      Due.is(weather, x.hour(), 1);
      Due.is("one on", x.told(0, 3), 1);
    }
  }

  static void terms1AMayorInTheLastHours() {
    LameClocks x = new LameClocks();
    toHour(x, 9995);
    x.paint(1, 5);
    x.clock(5, 0, 0, 0);
    Due.is("9995", x.hour(), 0);
    Due.is("9996", x.hour(), 1);
    x.paint(2, 5);
    Due.is("9997", x.hour(), 0);
    Due.is("9998", x.hour(), 0);
    Due.is("what comes beyond 9999", x.finish(0), 10008);
  }

  static void terms1AMayorInOtherHoursGoesByTheDial() {
    LameClocks x = race("-5-2", "", "m120");
    x.hour();
    Due.is("by none", x.hour(), 1);
    Due.is("by what it strikes", x.hour(), 1);
    Due.is("home", x.count(3), 1);
  }

  static void terms1NoOtherKindGoesByTheHour() {
    for (int kind = 0; kind < 5; kind++) {
      LameClocks x = race("-99", "", KINDS.charAt(kind) + "0");
      for (int h = 0; h < 9; h++) Due.is("kind " + kind + " in hour " + h, x.hour(), 0);
    }
  }

  static void terms1WhoIsHomeGoesNoMore() {
    LameClocks x = race("--", "", "m0,p0");
    Due.is("both", x.hour(), 2);
    for (int h = 1; h <= 12; h++) Due.is("hour " + h, x.hour(), 0);
    Due.is("finish", x.told(0, 4), 1);
    Due.is("nothing is heard", x.heard(), 0);
  }

  static void terms1WhatIsLeftIsThereInThisHourToo() {
    LameClocks x = race("-----", "", "o180");
    x.hour();
    x.clock(2, 180, 0, 0);
    x.clock(2, 240, 0, 0);
    Due.is("0 leaves 3 in window 1: 1 goes, 2 does not", x.hour(), 2);
    Due.is("who", x.heard(), 3);
  }

  static void terms1ByNumbersSoWhatALaterOneLeavesIsNotThereYet() {
    LameClocks x = race("-3---", "", "o240,o180");
    Due.is("1 alone", x.hour(), 1);
    x.turn(0, 660);
    x.paint(1, 5);
    Due.is("0 sees 5, then 1 leaves 3", x.hour(), 1);
    Due.is("who", x.heard(), 2);
    Due.is("0 sees 3", x.hour() > 0 ? x.heard() & 1 : 0, 1);
  }

  static void terms1OfTwoWhoLeaveAWindowTheLaterOnesIsLeft() {
    LameClocks x = race("---", "", "o60,o120,o0");
    Due.is("all", x.hour(), 3);
    Due.is("left", x.dial(0), 0);
  }

  static void terms1ACuckooInRainComesOneFartherHomeAtMost() {
    for (int windows = 2; windows <= 6; windows++) {
      LameClocks x = race("-".repeat(windows), "r", "c0");
      int window = 0;
      for (int h = 1; window < windows - 1; h++) {
        Due.is("goes", x.hour(), 1);
        window = Math.min(window + 2, windows - 1);
        Due.is("of " + windows + " behind " + h, x.told(0, 3), window);
      }
      Due.is("finish", x.told(0, 4), windows / 2);
    }
  }

  static void terms1OnlyACuckooAndOnlyInRain() {
    for (int kind = 0; kind < 6; kind++) {
      for (int weather = 0; weather < 4; weather++) {
        LameClocks x = race("----", WEATHERS.substring(weather, weather + 1), KINDS.charAt(kind) + "0");
        x.hour();
        int window = kind == 1 && weather == 1 ? 2 : kind == 3 && weather != 0 ? 0 : 1;
        Due.is("kind " + kind + " weather " + weather, x.told(0, 3), window);
      }
    }
  }

  static void terms1ACuckooLooksAtTheNextOneAlone() {
    LameClocks x = race("-12-", "r", "c60");
    Due.is("over the 2", x.hour(), 1);
    Due.is("its window", x.told(0, 3), 2);
    Due.is("the one it leaves", x.dial(0), 1);
    Due.is("the one between stays", x.dial(1), 1);
    Due.is("the one it comes to stays", x.dial(2), 2);
    LameClocks y = race("-21-", "r", "c60");
    Due.is("not by the one behind the next", y.hour(), 0);
  }

  static void terms1WhoGoesIsHeardButInSnow() {
    for (int weather = 0; weather < 4; weather++) {
      LameClocks x = race("---", WEATHERS.substring(weather, weather + 1), "o60");
      Due.is("goes", x.hour(), 1);
      Due.is("heard in " + weather, x.heard(), weather == 2 ? 0 : 1);
      Due.is("strokes in " + weather, x.count(4), weather == 2 ? 0 : 1);
      Due.is("left all the same", x.dial(0), 1);
    }
  }

  static void terms1WhoDoesNotGoIsNotHeard() {
    LameClocks x = race("-5-", "", "o300,o60");
    x.hour();
    Due.is("heard", x.heard(), 1);
    Due.is("strokes", x.count(4), 5);
  }

  // ---- part 1: how clocks run

  static void terms1RunsWithASpringAbove0() {
    LameClocks x = race("-9", "", "p0*0,p0*1,p0*2");
    int[][] hands = {{0, 0, 0}, {0, 60, 60}, {0, 60, 120}, {0, 60, 120}};
    int[][] springs = {{0, 1, 2}, {0, 0, 1}, {0, 0, 0}, {0, 0, 0}};
    for (int h = 0; h < 4; h++) {
      for (int c = 0; c < 3; c++) {
        Due.is("hands", x.told(c, 1), hands[h][c]);
        Due.is("spring", x.told(c, 2), springs[h][c]);
      }
      x.hour();
    }
  }

  static void terms1HandsAreLeftOverBy720() {
    int[][] runs = {{659, 0, 719}, {660, 0, 0}, {719, 0, 59}, {719, 30, 89}, {629, 30, 719}, {630, 30, 0},
        {689, -30, 719}, {690, -30, 0}, {719, -30, 29}, {0, -30, 30}, {0, 30, 90}, {0, 0, 60}};
    for (int[] r : runs) {
      LameClocks x = new LameClocks();
      x.clock(0, r[0], r[1], 1);
      x.hour();
      Due.is(r[0] + " by rate " + r[1], x.told(0, 1), r[2]);
    }
  }

  static void terms1AStoppedOneAndASundialNeverRun() {
    LameClocks x = race("-9", "", "p0*5,c0*5,o0*5,d0*5,t0*5,m0*5");
    x.hour();
    int[] hands = {60, 60, 0, 0, 60, 60};
    int[] springs = {4, 4, 5, 5, 4, 4};
    for (int c = 0; c < 6; c++) {
      Due.is("hands of kind " + c, x.told(c, 1), hands[c]);
      Due.is("spring of kind " + c, x.told(c, 2), springs[c]);
    }
  }

  static void terms1ClocksRunAtHomeToo() {
    LameClocks x = race("--", "", "p0*9");
    hours(x, 3);
    Due.is("home", x.count(3), 1);
    Due.is("hands", x.told(0, 1), 180);
    Due.is("spring", x.told(0, 2), 6);
  }

  static void terms1ClocksRunInAnyWeather() {
    LameClocks x = race("-9", "srwn", "p0*9");
    hours(x, 4);
    Due.is("hands", x.told(0, 1), 240);
  }

  static void terms1ClocksRunWhenAllHaveGone() {
    LameClocks x = race("-10", "", "p60*9,t0");
    Due.is("the twin strikes what the other one struck", x.hour(), 2);
    Due.is("from then on", x.told(1, 6), 2);
  }

  static void terms1AboveHour9999IsRefused() {
    LameClocks x = new LameClocks();
    toHour(x, 9998);
    Due.is("lots to 10000", x.lots(2), -3);
    Due.is("hour to 9999", x.hour(), 0);
    Due.is("the hour", x.count(2), 9999);
    Due.is("hour", x.hour(), -3);
    Due.is("lots", x.lots(1), -3);
    Due.is("the hour", x.count(2), 9999);
  }

  static void terms1WhatComesMayGoBeyond9999() {
    LameClocks x = race("--", "", "");
    toHour(x, 9999);
    x.clock(0, 0, 0, 9);
    x.clock(3, 0, 0, 0);
    x.clock(2, 180, 0, 0);
    x.paint(1, 4);
    Due.is("hour", x.hour(), -3);
    Due.is("behind 1", x.behind(1, 1, 0), 0);
    Due.is("behind 2, by 4", x.behind(1, 2, 0), 1);
    Due.is("leads", x.leads(2), 2);
    Due.is("finish", x.finish(1), 10001);
    Due.is("finish, by the spring", x.finish(0), 10004);
    Due.is("over", x.over(), -4);
    Due.is("right", x.right(2, 13), 2);
    Due.is("appeal", x.appeal(1, 2), 1);
    Due.is("spans", x.spans(1, 0), 2);
    x.sheet(0, 0, 3);
    x.item(0, 0, 1, 1);
    Due.is("seen", x.seen(0, 0, 0), 2);
    x.strike();
    Due.is("over", x.over(), 5);
    Due.is("the hour", x.count(2), 9999);
  }

  // ---- part 1: finish, places

  static void terms1FinishIsTheHourBehindWhichOneIsHome() {
    LameClocks x = race("--", "", "o0");
    Due.is("not home", x.told(0, 4), -4);
    x.hour();
    Due.is("home in the hour 0", x.told(0, 4), 1);
    LameClocks y = race("--", "", "");
    toHour(y, 9998);
    y.clock(2, 0, 0, 0);
    y.hour();
    Due.is("home in the last hour", y.told(0, 4), 9999);
  }

  static void terms1BothHomeByALesserFinish() {
    LameClocks x = race("---", "r", "p0,c0,p0,c0");
    hours(x, 2);
    int[] finish = {2, 1, 2, 1};
    int[] places = {3, 1, 3, 1};
    for (int c = 0; c < 4; c++) {
      Due.is("finish " + c, x.told(c, 4), finish[c]);
      Due.is("place " + c, x.place(c), places[c]);
    }
    Due.is("tied", x.count(7), 2);
  }

  static void terms1WhoAloneIsHomeIsAhead() {
    LameClocks x = race("---", "r", "p0,c0");
    x.hour();
    Due.is("is not home", x.place(0), 2);
    Due.is("is home", x.place(1), 1);
    Due.is("tied", x.count(7), 0);
  }

  static void terms1NeitherHomeByAGreaterWindow() {
    LameClocks x = race("-1-5", "", "o0,o60,o60,o120");
    hours(x, 2);
    int[] windows = {0, 2, 2, 0};
    int[] places = {3, 1, 1, 3};
    for (int c = 0; c < 4; c++) {
      Due.is("window " + c, x.told(c, 3), windows[c]);
      Due.is("place " + c, x.place(c), places[c]);
    }
    Due.is("tied", x.count(7), 2);
  }

  static void terms1NineAreTiedInAllPairs() {
    LameClocks x = race("--", "", "o0,o0,o0,o0,o0,o0,o0,o0,o0");
    Due.is("at first", x.count(7), 36);
    x.hour();
    Due.is("home", x.count(7), 36);
    for (int c = 0; c < 9; c++) Due.is("place", x.place(c), 1);
  }

  static void terms1PlaceIsHowManyAreAheadAnd1() {
    LameClocks x = new LameClocks();
    Due.course(x, "-".repeat(24));
    for (int c = 0; c < 9; c++) {
      x.clock(2, 0, 0, 0);
      x.hour();
    }
    for (int c = 0; c < 9; c++) Due.is("place", x.place(c), c + 1);
    Due.is("tied", x.count(7), 0);
  }
}
