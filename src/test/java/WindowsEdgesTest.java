/** Promises 1 to 16: each sentence that names an edge or a refusal has a test of its own. */
public final class WindowsEdgesTest {
  public static void main(String[] args) {
    Due.runAll(WindowsEdgesTest.class);
  }

  private static LameClocks street(String text) {
    LameClocks x = new LameClocks();
    Due.street(x, text);
    return x;
  }

  // ---- 1

  static void promise01EightWindowsNoClockSun() {
    LameClocks x = new LameClocks();
    int[] counts = {8, 0, 0, 0, 0, 0, 0, 0};
    for (int what = 0; what < 8; what++) Due.is("count " + what, x.count(what), counts[what]);
    Due.is("heard", x.heard(), 0);
    for (int h : new int[] {0, 1, 9999}) Due.is("weather", x.weather(h), 0);
    for (int sheet = 0; sheet < 4; sheet++) Due.is("no sheet", x.drop(sheet), -11);
    Due.is("no image", x.restore(), -4);
    Due.is("no repair", x.undo(), -4);
    Due.is("no letter", x.type('s'), 1);
  }

  static void promise01ObjectsHaveNothingInCommon() {
    LameClocks x = new LameClocks();
    LameClocks y = new LameClocks();
    String fresh = Due.state(y);
    Due.street(x, "o0,o0");
    Due.course(x, "012");
    Due.skies(x, "rw");
    x.bet(0, 5);
    x.hour();
    x.sheet(0, 0, 3);
    x.image();
    x.type('s');
    Due.same("the other one", Due.state(y), fresh);
    Due.is("its sheets", y.drop(0), -11);
    Due.is("its image", y.restore(), -4);
    Due.is("its tape", y.type('s'), 1);
  }

  // ---- 2

  private static void badClock(int kind, int hands, int rate, int spring) {
    Twins.refusedAlways("clock", -1, x -> x.clock(kind, hands, rate, spring));
  }

  static void promise02KindsAre0To5() {
    LameClocks x = new LameClocks();
    for (int kind = 0; kind <= 5; kind++) {
      Due.is("kind", x.clock(kind, 0, 0, 0), kind);
      Due.is("kind", x.told(kind, 0), kind);
    }
    badClock(6, 0, 0, 0);
    for (int b : Twins.BELOW_AND_FAR) badClock(b, 0, 0, 0);
  }

  static void promise02HandsAre0To719() {
    LameClocks x = new LameClocks();
    Due.is("0", x.clock(0, 0, 0, 0), 0);
    Due.is("719", x.clock(0, 719, 0, 0), 1);
    Due.is("0", x.told(0, 1), 0);
    Due.is("719", x.told(1, 1), 719);
    badClock(0, 720, 0, 0);
    for (int b : Twins.BELOW_AND_FAR) badClock(0, b, 0, 0);
  }

  static void promise02RatesAreMinus30To30() {
    LameClocks x = new LameClocks();
    Due.is("-30", x.clock(0, 0, -30, 0), 0);
    Due.is("30", x.clock(0, 0, 30, 0), 1);
    Due.is("-30", x.rate(0), -30);
    Due.is("30", x.rate(1), 30);
    for (int b : new int[] {-31, 31, Due.MIN, Due.MAX}) badClock(0, 0, b, 0);
  }

  static void promise02SpringsAre0To99() {
    LameClocks x = new LameClocks();
    Due.is("0", x.clock(0, 0, 0, 0), 0);
    Due.is("99", x.clock(0, 0, 0, 99), 1);
    Due.is("0", x.told(0, 2), 0);
    Due.is("99", x.told(1, 2), 99);
    badClock(0, 0, 0, 100);
    for (int b : Twins.BELOW_AND_FAR) badClock(0, 0, 0, b);
  }

  static void promise02FullAt9() {
    LameClocks x = street("p0,p0,p0,p0,p0,p0,p0,p0");
    Due.is("the ninth", x.clock(0, 0, 0, 0), 8);
    Due.is("a tenth", x.clock(0, 0, 0, 0), -3);
    Twins.refused("clock", -3, Twins.FULL, y -> y.clock(5, 719, 30, 99));
    x.strike();
    Due.is("the ninth again", x.clock(0, 0, 0, 0), 8);
  }

  static void promise02BadAheadOfFull() {
    Twins.refused("clock", -1, Twins.FULL, x -> x.clock(6, 0, 0, 0));
    Twins.refused("clock", -1, Twins.FULL, x -> x.clock(0, 720, 0, 0));
    Twins.refused("clock", -1, Twins.FULL, x -> x.clock(0, 0, 31, 0));
    Twins.refused("clock", -1, Twins.FULL, x -> x.clock(0, 0, 0, 100));
  }

  // ---- 3

  static void promise03None() {
    Twins.refused("strike", -4, Twins.FRESH, x -> x.strike());
    LameClocks x = street("p0");
    Due.is("the only one", x.strike(), 0);
    Due.is("none", x.strike(), -4);
  }

  static void promise03NineToNone() {
    LameClocks x = street("p0,p1,p2,p3,p4,p5,p6,p7,p8");
    for (int left = 8; left >= 0; left--) {
      Due.is("strike", x.strike(), left);
      Due.is("how many", x.count(1), left);
      Due.is("the last one went", x.told(left, 1), -1);
      if (left > 0) Due.is("the one ahead of it stays", x.told(left - 1, 1), left - 1);
    }
  }

  static void promise03BetsOnItGoToo() {
    LameClocks x = street("p0,p0");
    int[] on = {1, 0, 1, 1, 0, 1};
    for (int b = 0; b < 6; b++) x.bet(on[b], b + 1);
    x.strike();
    Due.is("how many", x.count(5), 2);
    Due.is("the first that stays", x.pays(0, 0), 2);
    Due.is("the second that stays", x.pays(1, 0), 5);
    Due.is("no third", x.pays(2, 0), -1);
    Due.is("its part", x.pays(0, 1), 2);
    Due.is("a new one", x.bet(0, 9), 2);
    x.clock(0, 0, 0, 0);
    Due.is("none is on the new clock", x.pays(0, 2), 2);
    LameClocks y = street("p0,p0");
    y.bet(0, 3);
    y.bet(1, 4);
    y.bet(0, 5);
    y.strike();
    Due.is("the first stays the first", y.pays(0, 0), 3);
    Due.is("the third is the second", y.pays(1, 0), 5);
    LameClocks z = street("p0,p0");
    z.bet(0, 3);
    z.bet(0, 4);
    z.strike();
    Due.is("none was on it", z.count(5), 2);
    Due.is("they stay", z.pays(1, 0), 4);
  }

  static void promise03ItIsNoneOfWhoWasHeard() {
    LameClocks x = street("o60,o120,o180");
    x.hour();
    Due.is("heard", x.heard(), 7);
    x.strike();
    Due.is("heard", x.heard(), 3);
    x.clock(0, 0, 0, 0);
    Due.is("a new one was not heard", x.heard(), 3);
    x.strike();
    x.strike();
    Due.is("heard", x.heard(), 1);
  }

  /** The document takes it from who was HEARD; of strokes it says nothing, so these stay. */
  static void promise03StrokesOfTheLastHourStay() {
    LameClocks x = street("o60,o120,o180");
    x.hour();
    Due.is("strokes", x.count(4), 6);
    x.strike();
    Due.is("strokes", x.count(4), 6);
  }

  // ---- 4, 5

  static void promise04ToldOf0To6() {
    LameClocks x = street("c61+5*9");
    int[] told = {1, 61, 9, 0, -4, 61, 1};
    for (int what = 0; what <= 6; what++) Due.is("told " + what, x.told(0, what), told[what]);
    Twins.refused("told 7", -1, Twins.UNDER_WAY, y -> y.told(0, 7));
    for (int b : Twins.BELOW_AND_FAR) Twins.refused("told " + b, -1, Twins.UNDER_WAY, y -> y.told(0, b));
  }

  static void promise04NoSuchClock() {
    Twins.noSuchClock("told", -1, (x, c) -> x.told(c, 0));
    Twins.noSuchClock("told 4", -1, (x, c) -> x.told(c, 4));
  }

  static void promise04TheLastOfNine() {
    LameClocks x = street("p0,p0,p0,p0,p0,p0,p0,p0,m719-1*99");
    int[] told = {5, 719, 99, 0, -4, 719, 11};
    for (int what = 0; what <= 6; what++) Due.is("told " + what, x.told(8, what), told[what]);
  }

  static void promise04NoneIfItIsNotHome() {
    LameClocks x = street("o0");
    for (int h = 0; h < 7; h++) {
      Due.is("not home", x.told(0, 4), -4);
      x.hour();
    }
    Due.is("home", x.told(0, 4), 7);
    x.restart();
    Due.is("not home", x.told(0, 4), -4);
  }

  static void promise05NoSuchClockIs1000Less() {
    Twins.noSuchClock("rate", -1001, (x, c) -> x.rate(c));
  }

  static void promise05RatesOfTheFirstAndTheLast() {
    LameClocks x = street("p0-30,p0,p0,p0,p0,p0,p0,p0,p0+30");
    Due.is("the first", x.rate(0), -30);
    Due.is("the last", x.rate(8), 30);
  }

  // ---- 6, 7, 8

  static void promise06NoSuchWindow() {
    Twins.noSuchWindow("dial", (x, w) -> x.dial(w));
    LameClocks x = new LameClocks();
    Due.course(x, "34");
    Due.is("the last of two", x.dial(1), 4);
    Due.is("a third of two", x.dial(2), -1);
  }

  static void promise07NoSuchWindow() {
    Twins.noSuchWindow("paint", (x, w) -> x.paint(w, 5));
    LameClocks x = new LameClocks();
    Due.course(x, "34");
    Due.is("the first of two", x.paint(0, 5), 3);
    Due.is("the last of two", x.paint(1, 5), 4);
    Due.is("a third of two", x.paint(2, 5), -1);
    Due.course(x, "0".repeat(24));
    Due.is("the last of 24", x.paint(23, 5), 0);
    Due.is("a 25th", x.paint(24, 5), -1);
  }

  static void promise07DialsAre0To12() {
    LameClocks x = new LameClocks();
    for (int v = 0; v <= 12; v++) {
      Due.is("paint", x.paint(0, v), v == 0 ? 12 : v - 1);
      Due.is("dial", x.dial(0), v);
    }
    Twins.refusedAlways("paint 13", -1, y -> y.paint(0, 13));
    for (int b : Twins.BELOW_AND_FAR) Twins.refusedAlways("paint " + b, -1, y -> y.paint(0, b));
  }

  static void promise08HoursAre0To9999() {
    LameClocks x = new LameClocks();
    Due.skies(x, "nsr");
    Due.is("0", x.weather(0), 3);
    Due.is("9999", x.weather(9999), 3);
    Twins.refusedAlways("10000", -1, y -> y.weather(10000));
    for (int b : Twins.BELOW_AND_FAR) Twins.refusedAlways("" + b, -1, y -> y.weather(b));
  }

  // ---- 9

  static void promise09LettersAre32To126() {
    LameClocks x = new LameClocks();
    for (int letter = 32; letter <= 126; letter++) Due.is("type " + letter, x.type(letter), letter - 31);
    for (int b : new int[] {31, 127, 0, 10, 128, 288, -1, Due.MIN, Due.MAX}) {
      Twins.refusedAlways("type " + b, -1, y -> y.type(b));
    }
  }

  static void promise09FullAt160() {
    LameClocks x = new LameClocks();
    for (int i = 1; i <= 160; i++) Due.is("type", x.type(i <= 12 ? 's' : ' '), i);
    Due.is("a 161st", x.type('x'), -3);
    Due.is("and once more", x.type('x'), -3);
    Due.is("it is not there", x.skies(), 12);
    Due.is("empty then", x.type('s'), 1);
  }

  static void promise09BadAheadOfFull() {
    LameClocks x = new LameClocks();
    for (int i = 1; i <= 160; i++) x.type('s');
    Due.is("bad", x.type(31), -1);
    Due.is("bad", x.type(127), -1);
    Due.is("full", x.type(126), -3);
    Due.is("full", x.type(32), -3);
  }

  // ---- 10 to 13

  private static final Twins.Call[] READERS = {x -> x.course(), x -> x.skies(), x -> x.street(), x -> x.day()};

  static void promise10To13TheTapeIsEmptyThen() {
    String[] texts = {"--", "s", "p0", "h"};
    for (int i = 0; i < 4; i++) {
      LameClocks x = new LameClocks();
      Due.type(x, texts[i]);
      Due.is("read " + i, READERS[i].on(x), i == 0 ? 2 : 1);
      Due.is("empty then", x.type(' '), 1);
      Due.is("nothing is read once more", READERS[i].on(x), -20);
    }
  }

  static void promise10To13TheTapeIsEmptyBehindAFault() {
    for (int i = 0; i < 4; i++) {
      LameClocks x = new LameClocks();
      Due.type(x, "??");
      Due.is("read " + i, READERS[i].on(x), -20);
      Due.is("empty then", x.type(' '), 1);
    }
  }

  private static void faults(String[] texts, int[] places, Twins.Call reader) {
    for (Twins.Setup s : Twins.ALL) {
      for (int i = 0; i < texts.length; i++) Twins.faulty(texts[i], -20 - places[i], s, reader);
    }
  }

  static void promise10AFaultAndAllStays() {
    String[] texts = {"", "0", "x", "01c", "5".repeat(25), "5".repeat(24) + "x", " - "};
    int[] places = {0, 1, 0, 2, 24, 24, 1};
    faults(texts, places, x -> x.course());
  }

  static void promise10HowManyWindows() {
    for (int many = 2; many <= 24; many++) {
      LameClocks x = street("o0");
      Due.is("course", Due.course(x, "-".repeat(many)), many);
      Due.is("count", x.count(0), many);
      Due.is("home is the last", x.behind(0, 30, 0), many - 1);
    }
  }

  static void promise10AllElseStays() {
    LameClocks x = street("c60+3*9,o120");
    Due.skies(x, "rn");
    x.bet(1, 7);
    x.hour();
    Due.course(x, "-5-");
    Due.is("clocks", x.count(1), 2);
    Due.is("bets", x.count(5), 1);
    Due.is("who was heard", x.heard(), 3);
    Due.is("strokes", x.count(4), 3);
    Due.is("hands", x.told(0, 1), 123);
    Due.is("spring", x.told(0, 2), 8);
    Due.is("rate", x.rate(0), 3);
    Due.is("weather", x.weather(0), 1);
    Due.is("weather", x.weather(1), 3);
  }

  static void promise11AFaultAndAllStays() {
    String[] texts = {"", "x", "sx", "n".repeat(13), "n".repeat(12) + "x", "S", "  "};
    int[] places = {0, 0, 1, 12, 12, 0, 0};
    faults(texts, places, x -> x.skies());
  }

  static void promise11HowManyHours() {
    for (int many = 1; many <= 12; many++) Due.is("skies", Due.skies(new LameClocks(), "w".repeat(many)), many);
  }

  static void promise11OnlyTheWeatherIsAnother() {
    for (Twins.Setup s : Twins.ALL) {
      LameClocks x = new LameClocks();
      LameClocks y = new LameClocks();
      s.to(x);
      s.to(y);
      Due.skies(x, "s");
      Due.skies(x, "nw");
      Due.skies(y, "nw");
      Due.same("alike", Due.state(x), Due.state(y));
      Due.is("repairs", x.undo(), y.undo());
    }
  }

  static void promise12AFaultAndAllStays() {
    String[] texts = {"", "x", "p", "p720", "p0+31", "p0-31", "p0*100", "p0,", "p0;p0", "p0,p0,x",
        "p0,p0,p0,p0,p0,p0,p0,p0,p0,p0", "o0,o0,o0*100"};
    int[] places = {0, 0, 1, 1, 3, 3, 3, 3, 2, 6, 26, 9};
    faults(texts, places, x -> x.street());
  }

  static void promise12HowManyClocks() {
    for (int many = 1; many <= 9; many++) {
      LameClocks x = street("p1,p2,p3");
      Due.is("street", Due.street(x, "o5,".repeat(many - 1) + "o7"), many);
      Due.is("count", x.count(1), many);
      Due.is("the last", x.told(many - 1, 1), 7);
      Due.is("none behind it", x.told(many, 1), -1);
    }
  }

  static void promise13AFaultAndNothingIsDone() {
    String[] texts = {"", "x", "h;", "h;h;x", "w0+0", "w0+1;w0+100", "t0+719;t0+720", "b0;b", "h;w1", "h;h;h h"};
    int[] places = {0, 0, 2, 4, 3, 8, 10, 4, 4, 5};
    faults(texts, places, x -> x.day());
  }

  static void promise13TheFirstRefusedEndsIt() {
    String[] refused = {"w3+1", "t3+1", "b8", "b7", "w9+99", "t9+719", "b24", "b999999999999"};
    for (String act : refused) {
      for (int done = 0; done < 3; done++) {
        String text = "h;".repeat(done) + act + ";h;w0+1";
        int due = done;
        Twins.alike(text, x -> {
          Twins.UNDER_WAY.to(x);
          Due.is(text, Due.day(x, text), due);
        }, x -> {
          Twins.UNDER_WAY.to(x);
          for (int h = 0; h < due; h++) x.hour();
        });
      }
    }
  }

  static void promise13TheHourAbove9999IsRefused() {
    Twins.faulty("h", 0, Twins.LATE, x -> x.day());
    LameClocks x = new LameClocks();
    for (int i = 0; i < 166; i++) x.lots(60);
    x.lots(38);
    Due.is("9998", Due.day(x, "h;h"), 1);
    Due.is("9999", x.count(2), 9999);
  }

  static void promise13ActsAreAsTheCalls() {
    Twins.alike("a day", x -> {
      Twins.UNDER_WAY.to(x);
      Due.is("acts", Due.day(x, "w0+7;t2+719;h;b3;h;w2+99"), 6);
    }, x -> {
      Twins.UNDER_WAY.to(x);
      x.wind(0, 7);
      x.turn(2, 719);
      x.hour();
      x.breathe(3);
      x.hour();
      x.wind(2, 99);
    });
  }

  // ---- 14, 15, 16

  static void promise14CountsAre0To7() {
    LameClocks x = street("o60,o120");
    x.bet(0, 1);
    x.tune(0, 1);
    x.hour();
    int[] counts = {8, 2, 1, 0, 3, 1, 1, 1};
    for (int what = 0; what <= 7; what++) Due.is("count " + what, x.count(what), counts[what]);
    Twins.refusedAlways("count 8", -1, y -> y.count(8));
    for (int b : Twins.BELOW_AND_FAR) Twins.refusedAlways("count " + b, -1, y -> y.count(b));
  }

  static void promise14StrokesHeardAre0AtFirst() {
    LameClocks x = street("o0");
    Due.is("strokes", x.count(4), 0);
    x.hour();
    Due.is("strokes", x.count(4), 12);
  }

  static void promise14StrokesOfTheLastHourAlone() {
    LameClocks x = street("o60");
    Due.course(x, "--5");
    x.hour();
    Due.is("strokes", x.count(4), 1);
    x.hour();
    Due.is("none goes", x.count(4), 0);
    Due.is("none goes", x.heard(), 0);
  }

  static void promise14TheMostStrokes() {
    LameClocks x = street("o0,o0,o0,o0,o0,o0,o0,o0,o0");
    x.hour();
    Due.is("strokes", x.count(4), 108);
    Due.is("heard", x.heard(), 511);
    Due.is("home", x.count(3), 0);
    Due.course(x, "--");
    x.hour();
    Due.is("home", x.count(3), 9);
  }

  static void promise15WhoWasHeardInTheLastHour() {
    LameClocks x = street("o60,o120");
    Due.course(x, "-1-5");
    Due.is("at first", x.heard(), 0);
    x.hour();
    Due.is("0", x.heard(), 1);
    x.paint(1, 2);
    x.paint(2, 5);
    x.hour();
    Due.is("1", x.heard(), 2);
    x.paint(2, 12);
    x.hour();
    Due.is("both", x.heard(), 3);
    x.hour();
    Due.is("none", x.heard(), 0);
    x.paint(3, 12);
    x.lots(1);
    Due.is("none: there is snow by the first lot", x.heard(), 0);
  }

  static void promise16NoSuchClock() {
    Twins.noSuchClock("place", -1, (x, c) -> x.place(c));
  }

  static void promise16PlacesAre1To9() {
    LameClocks x = street("o60,o0,o0,o0,o0,o0,o0,o0,o0");
    Due.course(x, "-1--");
    for (int c = 0; c < 9; c++) Due.is("at first", x.place(c), 1);
    x.hour();
    for (int c = 0; c < 9; c++) Due.is("behind one", x.place(c), c == 0 ? 1 : 2);
    LameClocks y = street("o0,o60,o60,o60,o60,o60,o60,o60,o60");
    Due.course(y, "-1--");
    y.hour();
    Due.is("behind eight", y.place(0), 9);
  }
}
