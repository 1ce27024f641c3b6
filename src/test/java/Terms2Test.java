/** "Terms", part 2 (what comes): each sentence that names an edge has a test of its own. */
public final class Terms2Test {
  public static void main(String[] args) {
    Due.runAll(Terms2Test.class);
  }

  private static LameClocks race(String course, String skies, String street) {
    LameClocks x = new LameClocks();
    if (!course.isEmpty()) Due.course(x, course);
    if (!skies.isEmpty()) Due.skies(x, skies);
    if (!street.isEmpty()) Due.street(x, street);
    return x;
  }

  /** A sundial that needs 12 hours for each window but the first and the last: home behind 193 and the last dial. */
  private static LameClocks slow(int lastDial) {
    return race("-00000000000000000" + lastDial, "", "d0");
  }

  /**
   * Clock 0 stands in window 9. Clock 1 comes to it by striking 11, 10, 9 .. 3, each 11 hours behind the other one: from
   * hands at 0 its spring must run 99 times (and 1 less for each hour that the hands are farther on).
   */
  private static LameClocks chain(int spring) {
    return follower("ba9876543", spring);
  }

  /** Clock 0 stands in the last of these windows, clock 1 in the one ahead of them, with its hands at 0. */
  private static LameClocks follower(String dials, int spring) {
    int many = dials.length();
    LameClocks x = race("-".repeat(many + 2), "", "o0");
    for (int h = 0; h < many; h++) x.hour();
    for (int w = 0; w < many; w++) x.paint(w + 1, "0123456789ab".indexOf(dials.charAt(w)));
    x.paint(many + 1, 9);
    x.clock(0, 0, 0, spring);
    return x;
  }

  // ---- what comes

  static void terms2FromNowOn() {
    LameClocks x = race("-01234567", "", "p0*99");
    for (int now = 0; now <= 8; now++) {
      Due.is("window", x.behind(0, 2, 0), Math.min(8, now + 2));
      Due.is("finish", x.finish(0), 8);
      Due.is("over", x.over(), 8 - now);
      Due.is("spans", x.spans(0, 1), 8 - now);
      x.hour();
    }
  }

  static void terms2NothingIsChanged() {
    for (Twins.Setup s : Twins.ALL) {
      for (int n : new int[] {0, 1, 40, 200}) {
        Twins.onlyAsks("behind", s, x -> x.behind(0, n, 0) + 100 * x.behind(1, n, 1));
        Twins.onlyAsks("leads", s, x -> x.leads(n));
        Twins.onlyAsks("right", s, x -> x.right(0, n));
        Twins.onlyAsks("appeal", s, x -> x.appeal(1, n));
        Twins.onlyAsks("breath", s, x -> x.breath(0, n));
        Twins.onlyAsks("turns", s, x -> x.turns(0, 1, n));
        Twins.onlyAsks("hands", s, x -> x.hands(1, 1, n));
        Twins.onlyAsks("both", s, x -> x.both(0, 1, n, 0));
      }
      Twins.onlyAsks("duel", s, x -> x.duel(0, 1, 20, 0));
      Twins.onlyAsks("finish", s, x -> x.finish(0));
      Twins.onlyAsks("over", s, x -> x.over());
      Twins.onlyAsks("spans", s, x -> x.spans(1, 1));
      Twins.onlyAsks("struck", s, x -> x.struck(3, 12, 0));
      Twins.onlyAsks("seen", s, x -> x.seen(0, 0, 0));
    }
  }

  static void terms2Behind0HoursIsNow() {
    LameClocks x = race("-5-", "", "o300,o0");
    x.hour();
    Due.is("window", x.behind(0, 0, 0), 1);
    Due.is("place", x.behind(1, 0, 1), 2);
    Due.is("leads", x.leads(0), 1);
    Due.is("right", x.right(0, 0), 0);
    Due.is("appeal", x.appeal(1, 0), 2);
    Due.is("breath", x.breath(1, 0), -4);
    Due.is("turns", x.turns(1, 1, 0), -4);
    Due.is("turns", x.turns(1, 2, 0), 0);
    Due.is("hands", x.hands(1, 1, 0), -4);
    Due.is("hands", x.hands(1, 2, 0), 0);
    Due.is("both", x.both(1, 1, 0, 0), -4);
    Due.is("both", x.both(1, 2, 0, 0), 0);
    Due.is("duel", x.duel(0, 1, 0, 0), 144);
  }

  static void terms2Behind200HoursIsTheMost() {
    Due.is("in 199", slow(7).behind(0, 199, 0), 17);
    Due.is("in 200", slow(7).behind(0, 200, 0), 18);
    Due.is("in 200, if it needs 201", slow(8).behind(0, 200, 0), 17);
    Due.is("201", slow(8).behind(0, 201, 0), -1);
  }

  static void terms2FinishIn200Hours() {
    Due.is("in 199", slow(6).finish(0), 199);
    Due.is("in 200", slow(7).finish(0), 200);
    Due.is("in 201", slow(8).finish(0), -4);
    LameClocks x = slow(8);
    x.hour();
    Due.is("in 200 from the hour 1 on", x.finish(0), 201);
  }

  static void terms2OverIn0To200Hours() {
    Due.is("no clock", new LameClocks().over(), 0);
    Due.is("in 199", slow(6).over(), 199);
    Due.is("in 200", slow(7).over(), 200);
    Due.is("in 201", slow(8).over(), -4);
    LameClocks home = race("--", "", "o0");
    Due.is("in 1", home.over(), 1);
    home.hour();
    Due.is("in 0", home.over(), 0);
  }

  static void terms2OverIfAllAreHome() {
    LameClocks x = race("-0-", "", "o0,o60");
    Due.is("one is not: it goes by what is left", x.over(), -4);
    Due.is("the one", x.finish(0), 2);
    LameClocks y = race("---", "r", "c0,p0,p0");
    Due.is("the last of them", y.over(), 2);
  }

  static void terms2WhoLeadsHasPlace1() {
    LameClocks x = race("---", "r", "p0,c0,p0,c0");
    Due.is("all", x.leads(0), 15);
    Due.is("two", x.leads(1), 10);
    Due.is("two by their finish", x.leads(200), 10);
    Due.is("no clock", new LameClocks().leads(200), 0);
  }

  // ---- turns, hands, both

  static void terms2TurnsAre0To40() {
    Due.is("0", chain(99).turns(1, 1, 100), 0);
    Due.is("1", chain(98).turns(1, 1, 100), 1);
    Due.is("39", chain(60).turns(1, 1, 100), 39);
    Due.is("40", chain(59).turns(1, 1, 100), 40);
    Due.is("41", chain(58).turns(1, 1, 100), -4);
  }

  static void terms2TurnsMakeASpringOf99AtMost() {
    Due.is("99 would do", chain(60).turns(1, 1, 200), 39);
    LameClocks x = follower("ba98765434", 60);
    Due.is("100 would do", x.turns(1, 1, 200), -4);
    Due.is("99 would do, an hour on", x.both(1, 1, 200, 0), 40);
    Due.is("99 would do, an hour on", x.both(1, 1, 200, 1), 1);
    x.wind(1, 39);
    Due.is("100 would do", x.turns(1, 1, 200), -4);
    Due.is("99 would do, an hour on", x.hands(1, 1, 200), 1);
  }

  static void terms2TurnsInTime() {
    Due.is("behind 99", chain(59).turns(1, 1, 99), -4);
    Due.is("behind 100", chain(59).turns(1, 1, 100), 40);
    Due.is("behind 200", chain(59).turns(1, 1, 200), 40);
  }

  static void terms2APlaceOfPOrLess() {
    LameClocks x = chain(0);
    Due.is("it has 2", x.turns(1, 2, 200), 0);
    Due.is("it has less than 9", x.turns(1, 9, 200), 0);
    Due.is("the other one has 1, less than 2", x.turns(0, 2, 200), 0);
    Due.is("hands", x.hands(0, 9, 200), 0);
    Due.is("both", x.both(0, 9, 200, 0), 0);
    Due.is("both", x.both(0, 9, 200, 1), 0);
  }

  static void terms2HandsAre0To11() {
    Due.is("0", chain(99).hands(1, 1, 100), 0);
    Due.is("1", chain(98).hands(1, 1, 100), 1);
    Due.is("10", chain(89).hands(1, 1, 100), 10);
    Due.is("11", chain(88).hands(1, 1, 100), 11);
    Due.is("12", chain(87).hands(1, 1, 100), -4);
  }

  static void terms2HandsAreTurnedOnOverThe12() {
    LameClocks x = race("-----", "", "o0");
    x.hour();
    x.paint(1, 2);
    x.paint(2, 9);
    x.clock(2, 239, 0, 0);
    Due.is("from 3 59 to 2 59", x.hands(1, 1, 1), 11);
    x.turn(1, 661);
    Due.is("from 3 to 2", x.hands(1, 1, 1), 11);
    x.turn(1, 719);
    Due.is("from 2 59", x.hands(1, 1, 1), 0);
    x.turn(1, 541);
    Due.is("from 12 to 2", x.hands(1, 1, 1), 2);
  }

  static void terms2BothTheLeastTogether() {
    Due.is("hours count as turns do", chain(90).both(1, 1, 100, 0), 9);
    Due.is("of like ones the fewest hours", chain(90).both(1, 1, 100, 1), 0);
    Due.is("nothing", chain(99).both(1, 1, 100, 0), 0);
    Due.is("nothing", chain(99).both(1, 1, 100, 1), 0);
  }

  static void terms2BothAreUpTo40And11() {
    for (int hours = 0; hours <= 11; hours++) {
      Due.is("40 and " + hours, chain(59 - hours).both(1, 1, 100, 0), 40 + hours);
      Due.is("40 and " + hours, chain(59 - hours).both(1, 1, 100, 1), hours);
    }
    Due.is("40 and 12", chain(47).both(1, 1, 100, 0), -4);
    Due.is("40 and 12", chain(47).both(1, 1, 100, 1), -4);
  }

  // ---- duel, breath

  static void terms2ADuelOf0To11Hours() {
    LameClocks x = race("-b-", "", "o0,o0");
    Due.is("one rest", x.duel(0, 1, 1, 0), 1);
    Due.is("11 and 11", x.duel(0, 1, 1, 1), 1111);
    LameClocks y = race("-0-", "", "o0,o0");
    Due.is("0 and 0", y.duel(0, 1, 1, 0), 1);
    Due.is("0 and 0", y.duel(0, 1, 1, 1), 0);
    LameClocks z = race("-0-", "", "o0,o60");
    Due.is("0 and 11", z.duel(0, 1, 1, 1), 11);
    Due.is("11 and 0", z.duel(1, 0, 1, 1), 1100);
  }

  static void terms2OfADuelNeitherWouldChooseOtherwise() {
    LameClocks x = race("-4-", "", "o0,d0");
    Due.is("the other one can't do anything", x.duel(0, 1, 1, 0), 12);
    Due.is("the first of these", x.duel(0, 1, 1, 1), 400);
    Due.is("the first can't", x.duel(1, 0, 1, 0), 12);
    Due.is("the first of these", x.duel(1, 0, 1, 1), 4);
    LameClocks y = race("---", "", "o0,o0");
    Due.is("it is all one", y.duel(0, 1, 200, 0), 144);
    Due.is("it is all one", y.duel(0, 1, 200, 1), 0);
  }

  /** Clock 0 leaves what clock 1 must strike to follow it. */
  static void terms2ADuelWithoutRests() {
    LameClocks x = race("", "", "o0");
    x.hour();
    x.clock(2, 0, 0, 0);
    Due.is("how many", x.duel(0, 1, 1, 0), 0);
    Due.is("the first", x.duel(0, 1, 1, 1), -4);
    Due.is("how many", x.duel(1, 0, 1, 0), 0);
    Due.is("the first", x.duel(1, 0, 1, 1), -4);
  }

  /** Clock 0 in window 1, clock 1 in window 0: by none in 1 or in 2 the latter comes to 1; by none in 2 then to 2. */
  private static LameClocks behindOne() {
    LameClocks x = race("----", "", "o60");
    x.hour();
    x.clock(2, 60, 0, 0);
    x.paint(1, 5);
    x.paint(2, 7);
    x.paint(3, 7);
    return x;
  }

  static void terms2BreathOfLikeOnesTheLeast() {
    Due.is("by 1 or by 2", behindOne().breath(1, 1), 1);
  }

  static void terms2BreathMakesItGreatest() {
    Due.is("by 2 farther than by 1", behindOne().breath(1, 2), 2);
  }

  static void terms2BreathNoneIfNoneMakesItGreater() {
    Due.is("in no time", behindOne().breath(1, 0), -4);
    LameClocks x = race("-12", "", "o60");
    Due.is("it comes to 1 anyway", x.breath(0, 1), -4);
    Due.is("but not to 2", x.breath(0, 2), 2);
    LameClocks home = race("--", "", "o0");
    home.hour();
    Due.is("home", home.breath(0, 200), -4);
    Due.is("none are there", race("---", "", "o0").breath(0, 200), -4);
    Due.is("two would be needed", race("-22", "n", "d0").breath(0, 200), -4);
  }

  static void terms2BreathOnTheLastWindow() {
    Due.is("home of 2", race("-5", "", "o0").breath(0, 1), 1);
    LameClocks x = race("-".repeat(23) + "5", "", "o0");
    Due.is("home of 24", x.breath(0, 23), 23);
    Due.is("not in time", x.breath(0, 22), -4);
  }

  // ---- right, appeal, spans

  static void terms2RightAsHoursBegin() {
    LameClocks x = race("", "", "p0*1,o60");
    Due.is("0 in the hour 0", x.right(0, 1), 1);
    Due.is("1 in the hour 1", x.right(0, 2), 2);
    Due.is("1 in the hour 2", x.right(0, 3), 2);
    Due.is("not in the hour 0", x.right(1, 1), 0);
    Due.is("in the hour 1", x.right(1, 2), 1);
    Due.is("until the hour 12", x.right(1, 13), 1);
    Due.is("again in the hour 13", x.right(1, 14), 2);
  }

  static void terms2RightByTheHourThatIsStruckNotByMinutes() {
    Due.is("59 minutes on", race("", "", "o59").right(0, 1), 1);
    Due.is("60 minutes on", race("", "", "o60").right(0, 1), 0);
    Due.is("a minute late", race("", "", "o719").right(0, 1), 0);
  }

  static void terms2RightIn0To200Hours() {
    LameClocks x = race("", "", "d0");
    Due.is("0", x.right(0, 0), 0);
    Due.is("200", x.right(0, 200), 200);
    Due.is("201", x.right(0, 201), -1);
    Due.is("at home, too", race("--", "", "p0*99").right(0, 99), 99);
  }

  static void terms2AppealIfItWereSunInAllHours() {
    LameClocks x = race("---", "nrw", "d0,p0");
    Due.is("by the weather", x.behind(0, 2, 1), 2);
    Due.is("by the sun", x.appeal(0, 2), 1);
    LameClocks y = race("---", "r", "c0,p0");
    Due.is("by the rain", y.behind(1, 1, 1), 2);
    Due.is("by the sun", y.appeal(1, 1), 1);
    y.hour();
    Due.is("what was stays", y.appeal(1, 1), 2);
  }

  static void terms2SpansByTheFourKindsOfWeather() {
    LameClocks x = race("-----", "s", "c0");
    Due.is("the least, by rain", x.spans(0, 0), 2);
    Due.is("the most", x.spans(0, 1), 4);
    LameClocks y = race("-----", "n", "d0");
    Due.is("the least, by sun", y.spans(0, 0), 4);
    Due.is("the most", y.spans(0, 1), 201);
  }

  static void terms2SpansOf200AtMostElse201() {
    Due.is("199", slow(6).spans(0, 0), 199);
    Due.is("200", slow(7).spans(0, 0), 200);
    Due.is("201", slow(8).spans(0, 0), 201);
    Due.is("never", race("-5", "", "o0").spans(0, 0), 201);
    Due.is("never", race("-5", "", "o0").spans(0, 1), 201);
    LameClocks home = race("--", "", "o0");
    home.hour();
    Due.is("home", home.spans(0, 0), 0);
    Due.is("home", home.spans(0, 1), 0);
  }
}
