/** Promises 24 to 35: what comes, turns, duels, breath, how often one is right, spans. */
public final class ComesTest {
  /** A sundial that needs a whole turn of the dial for each window: home behind 200 hours by 7, 201 by 8. */
  private static final String SLOW = "-00000000000000000";
  private static final int[] BAD_SPANS = {-1, 201, Due.MIN, Due.MAX};
  private static final int[] BAD_CLOCKS = {-1, 2, 9, Due.MIN, Due.MAX};
  private static final int[] BAD_BITS = {-1, 2, Due.MIN, Due.MAX};

  public static void main(String[] args) {
    behind();
    leads();
    finish();
    over();
    farthest();
    turns();
    turnsAtMost();
    hands();
    both();
    duel();
    duelWithoutRest();
    breath();
    right();
    appeal();
    spans();
    nothingIsChanged();
    Due.end();
  }

  static LameClocks two() {
    LameClocks x = new LameClocks();
    Due.street(x, "p0*99,o120");
    Due.course(x, "-012");
    return x;
  }

  static void behind() {
    LameClocks x = two();
    int[] windows = {0, 1, 2, 3, 3};
    for (int n = 0; n < 5; n++) Due.is("24 window", x.behind(0, n, 0), windows[n]);
    Due.is("24 window", x.behind(1, 3, 0), 0);
    Due.is("24 place", x.behind(1, 0, 1), 1);
    Due.is("24 place", x.behind(1, 1, 1), 2);
    Due.is("24 place", x.behind(0, 200, 1), 1);
    for (int b : BAD_CLOCKS) Due.is("24 bad", x.behind(b, 0, 0), -1);
    for (int b : BAD_SPANS) Due.is("24 bad", x.behind(0, b, 0), -1);
    for (int b : BAD_BITS) Due.is("24 bad", x.behind(0, 0, b), -1);
    LameClocks y = new LameClocks();
    Due.skies(y, "ns");
    Due.street(y, "d0");
    Due.is("24 by weather", y.behind(0, 9, 0), 4);
    y.hour();
    Due.is("24 from now on", y.behind(0, 9, 0), 5);
  }

  static void leads() {
    LameClocks x = two();
    Due.is("25 both", x.leads(0), 3);
    Due.is("25 one", x.leads(1), 1);
    Due.is("25 one", x.leads(200), 1);
    for (int b : BAD_SPANS) Due.is("25 bad", x.leads(b), -1);
    Due.is("25 no clock", new LameClocks().leads(5), 0);
    Due.is("25 no clock, bad", new LameClocks().leads(201), -1);
    LameClocks y = new LameClocks();
    Due.street(y, "p0,c0,c0");
    Due.skies(y, "r");
    Due.is("25 by window", y.leads(3), 6);
    Due.is("25 by finish", y.leads(9), 6);
  }

  static void finish() {
    LameClocks x = two();
    Due.is("26 finish", x.finish(0), 3);
    Due.is("26 none", x.finish(1), -4);
    x.hour();
    Due.is("26 from now on", x.finish(0), 3);
    x.hour();
    x.hour();
    x.hour();
    Due.is("26 now", x.finish(0), 3);
    for (int b : BAD_CLOCKS) Due.is("26 bad", x.finish(b), -1);
    LameClocks late = new LameClocks();
    late.lots(60);
    late.clock(0, 0, 0, 0);
    Due.is("26 as the hours are counted", late.finish(0), 67);
  }

  static void over() {
    LameClocks x = new LameClocks();
    Due.is("27 no clock", x.over(), 0);
    Due.street(x, "o0,c0");
    Due.is("27 all", x.over(), 7);
    x.hour();
    Due.is("27 from now on", x.over(), 6);
    for (int h = 0; h < 7; h++) x.hour();
    Due.is("27 now", x.over(), 0);
    Due.is("27 none", two().over(), -4);
  }

  static void farthest() {
    LameClocks x = new LameClocks();
    Due.street(x, "d0");
    Due.course(x, SLOW + "7");
    Due.is("26 in 200", x.finish(0), 200);
    Due.is("27 in 200", x.over(), 200);
    Due.is("24 in 199", x.behind(0, 199, 0), 17);
    Due.is("24 in 200", x.behind(0, 200, 0), 18);
    Due.is("35 in 200", x.spans(0, 0), 200);
    Due.is("35 never", x.spans(0, 1), 201);
    LameClocks y = new LameClocks();
    Due.street(y, "d0");
    Due.course(y, SLOW + "8");
    Due.is("26 in 201", y.finish(0), -4);
    Due.is("27 in 201", y.over(), -4);
    Due.is("24 in 200", y.behind(0, 200, 0), 17);
    Due.is("35 in 201", y.spans(0, 0), 201);
    y.hour();
    Due.is("26 in 200 from now on", y.finish(0), 201);
  }

  /** The mayor goes in hours 0, 6, 12 ..: the other one needs as much spring as keeps up with him. */
  static LameClocks withMayor(String course, String first) {
    LameClocks x = new LameClocks();
    Due.street(x, first + ",m660");
    Due.course(x, course);
    return x;
  }

  static void turns() {
    LameClocks x = withMayor("-0123456", "p0");
    Due.is("28 behind 6", x.turns(0, 1, 6), 0);
    Due.is("28 behind 8", x.turns(0, 1, 8), 1);
    Due.is("28 behind 13", x.turns(0, 1, 13), 2);
    Due.is("28 behind 20", x.turns(0, 1, 20), 3);
    Due.is("28 second", x.turns(0, 2, 20), 0);
    Due.is("28 ninth", x.turns(0, 9, 20), 0);
    x.wind(0, 2);
    Due.is("28 with a spring of 2", x.turns(0, 1, 20), 1);
    for (int b : BAD_CLOCKS) Due.is("28 bad", x.turns(b, 1, 0), -1);
    for (int b : new int[] {0, -1, 10, Due.MIN, Due.MAX}) Due.is("28 bad", x.turns(0, b, 0), -1);
    for (int b : BAD_SPANS) Due.is("28 bad", x.turns(0, 1, b), -1);
    LameClocks y = withMayor("-0555555", "p0");
    Due.is("28 five hours on", y.turns(0, 1, 8), 5);
    Due.is("28 a stopped one", withMayor("-0555555", "o0").turns(0, 1, 8), -4);
  }

  static void turnsAtMost() {
    Due.is("28 by 40", halfSpeed(0).turns(1, 1, 60), 40);
    Due.is("28 by 40, in time", halfSpeed(0).turns(1, 1, 41), 40);
    Due.is("28 by 40, too late", halfSpeed(0).turns(1, 1, 40), -4);
    Due.is("28 by 41", halfSpeed(690).turns(1, 1, 60), -4);
    LameClocks wound = halfSpeed(690);
    wound.wind(1, 1);
    Due.is("28 by 41, one of which is wound", wound.turns(1, 1, 60), 40);
    wound.wind(1, 99);
    Due.is("28 full", wound.turns(1, 1, 60), 0);
  }

  /** Clock 0 stands in window 2; clock 1 comes there by striking 10, then 8: behind 40 turns, if its hands are at 0. */
  static LameClocks halfSpeed(int hands) {
    LameClocks x = new LameClocks();
    Due.course(x, "---9");
    Due.street(x, "o0");
    x.hour();
    x.hour();
    x.paint(1, 10);
    x.paint(2, 8);
    x.clock(0, hands, -30, 0);
    return x;
  }

  static void hands() {
    LameClocks x = withMayor("-3333333", "o0");
    Due.is("29 three on", x.hands(0, 1, 5), 3);
    Due.is("29 second", x.hands(0, 2, 5), 0);
    Due.is("29 now", x.hands(0, 1, 0), 0);
    x.turn(0, 240);
    Due.is("29 eleven on", x.hands(0, 1, 5), 11);
    x.turn(0, 719);
    Due.is("29 of 3 59", x.hands(0, 1, 5), 0);
    Due.is("29 none", withMayor("-0123456", "p0").hands(0, 1, 8), -4);
    for (int b : BAD_CLOCKS) Due.is("29 bad", x.hands(b, 1, 0), -1);
    for (int b : new int[] {0, -1, 10, Due.MIN, Due.MAX}) Due.is("29 bad", x.hands(0, b, 0), -1);
    for (int b : BAD_SPANS) Due.is("29 bad", x.hands(0, 1, b), -1);
  }

  static void both() {
    LameClocks x = withMayor("-345678", "p0");
    Due.is("30 behind 8", x.both(0, 1, 8, 0), 4);
    Due.is("30 of like ones the fewest hours", x.both(0, 1, 8, 1), 0);
    Due.is("30 behind 2", x.both(0, 1, 2, 0), 3);
    Due.is("30 behind 2", x.both(0, 1, 2, 1), 2);
    Due.is("30 behind 1", x.both(0, 1, 1, 0), 3);
    Due.is("30 behind 1", x.both(0, 1, 1, 1), 3);
    Due.is("30 second", x.both(0, 2, 8, 0), 0);
    Due.is("30 second", x.both(0, 2, 8, 1), 0);
    LameClocks eleven = withMayor("-bbbbbbb", "o0*99");
    Due.is("30 eleven hours", eleven.both(0, 1, 5, 0), 11);
    Due.is("30 eleven hours", eleven.both(0, 1, 5, 1), 11);
    LameClocks y = withMayor("-3a5678", "o0");
    Due.is("30 none", y.both(0, 1, 8, 0), -4);
    Due.is("30 none", y.both(0, 1, 8, 1), -4);
    for (int b : BAD_CLOCKS) Due.is("30 bad", x.both(b, 1, 0, 0), -1);
    for (int b : new int[] {0, -1, 10, Due.MIN, Due.MAX}) Due.is("30 bad", x.both(0, b, 0, 0), -1);
    for (int b : BAD_SPANS) Due.is("30 bad", x.both(0, 1, b, 0), -1);
    for (int b : BAD_BITS) Due.is("30 bad", x.both(0, 1, 0, b), -1);
  }

  static void duel() {
    LameClocks x = new LameClocks();
    Due.street(x, "o0,o60");
    Due.course(x, "-55-");
    Due.is("31 now", x.duel(0, 1, 0, 0), 144);
    Due.is("31 now", x.duel(0, 1, 0, 1), 0);
    Due.is("31 both want 5", x.duel(0, 1, 1, 0), 1);
    Due.is("31 both want 5", x.duel(0, 1, 1, 1), 504);
    Due.is("31 the other way", x.duel(1, 0, 1, 1), 405);
    for (int b : BAD_CLOCKS) Due.is("31 bad", x.duel(b, 0, 0, 0), -1);
    for (int b : BAD_CLOCKS) Due.is("31 bad", x.duel(0, b, 0, 0), -1);
    Due.is("31 one alike", x.duel(0, 0, 0, 0), -1);
    Due.is("31 one alike", x.duel(1, 1, 0, 1), -1);
    for (int b : BAD_SPANS) Due.is("31 bad", x.duel(0, 1, b, 0), -1);
    for (int b : BAD_BITS) Due.is("31 bad", x.duel(0, 1, 0, b), -1);
    LameClocks y = new LameClocks();
    Due.street(y, "o0,d0");
    Due.course(y, "-55-");
    Due.is("31 a sundial can't", y.duel(0, 1, 1, 0), 12);
    Due.is("31 the first of these", y.duel(0, 1, 1, 1), 500);
    Due.is("31 the first of these", y.duel(1, 0, 1, 1), 5);
  }

  /** One leaves what the other must strike: the one flees it, the other seeks it. */
  static void duelWithoutRest() {
    LameClocks x = new LameClocks();
    Due.street(x, "o0");
    x.hour();
    x.clock(2, 0, 0, 0);
    Due.is("31 no rest", x.duel(0, 1, 1, 0), 0);
    Due.is("31 none", x.duel(0, 1, 1, 1), -4);
    Due.is("31 no rest the other way", x.duel(1, 0, 1, 0), 0);
    Due.is("31 none", x.duel(1, 0, 1, 1), -4);
  }

  static void breath() {
    LameClocks x = new LameClocks();
    Due.street(x, "o0,o60");
    Due.course(x, "-123");
    Due.is("32 the next one", x.breath(0, 5), 1);
    Due.is("32 now", x.breath(0, 0), -4);
    Due.is("32 farther", x.breath(1, 5), 2);
    Due.course(x, "-0-3-");
    Due.is("32 the one that stops it", x.breath(0, 9), 3);
    Due.is("32 in time", x.breath(0, 2), -4);
    Due.course(x, "---");
    Due.is("32 it is none already", x.breath(0, 9), -4);
    for (int b : BAD_CLOCKS) Due.is("32 bad", x.breath(b, 0), -1);
    for (int b : BAD_SPANS) Due.is("32 bad", x.breath(0, b), -1);
    Due.course(x, "-1234567890ab1234567890a");
    Due.is("32 of 24 windows", x.breath(0, 200), 1);
    LameClocks like = new LameClocks();
    Due.street(like, "o60,p0*9");
    Due.course(like, "-1-");
    Due.is("32 nothing to gain", like.breath(0, 2), -4);
    Due.course(like, "-2--");
    // By breath on 1 it goes to 2 in two hours; by breath on 0, 2, 3 it stays.
    Due.is("32 the least of like ones", like.breath(0, 2), 1);
  }

  static void right() {
    LameClocks x = new LameClocks();
    Due.street(x, "p0*99,p0*5,o60,d0,t5,p59-1*99");
    Due.is("33 always", x.right(0, 99), 99);
    Due.is("33 none", x.right(0, 0), 0);
    Due.is("33 until its spring is down", x.right(1, 12), 6);
    Due.is("33 and once a turn", x.right(1, 24), 7);
    Due.is("33 a stopped one", x.right(2, 1), 0);
    Due.is("33 a stopped one", x.right(2, 2), 1);
    Due.is("33 a stopped one", x.right(2, 24), 2);
    Due.is("33 a sundial", x.right(3, 200), 200);
    Due.is("33 its twin", x.right(4, 200), 200);
    Due.is("33 slow", x.right(5, 60), 60);
    Due.is("33 slow", x.right(5, 61), 60);
    for (int b : new int[] {-1, 6, Due.MIN, Due.MAX}) Due.is("33 bad", x.right(b, 0), -1);
    for (int b : BAD_SPANS) Due.is("33 bad", x.right(0, b), -1);
    x.hour();
    Due.is("33 from now on", x.right(2, 1), 1);
  }

  static void appeal() {
    LameClocks x = new LameClocks();
    Due.street(x, "d0,o0");
    Due.skies(x, "n");
    Due.is("24 in the night", x.behind(0, 5, 1), 2);
    Due.is("34 in the sun", x.appeal(0, 5), 1);
    Due.is("34 in the sun", x.appeal(1, 5), 1);
    x.hour();
    Due.is("34 from now on", x.appeal(0, 5), 2);
    Due.is("34 both home", x.appeal(0, 200), 2);
    LameClocks done = new LameClocks();
    Due.street(done, "p0,c0,p0");
    Due.skies(done, "r");
    for (int h = 0; h < 9; h++) done.hour();
    int[] places = {2, 1, 2};
    for (int c = 0; c < 3; c++) Due.is("24 the finish of who is home counts", done.behind(c, 0, 1), places[c]);
    for (int b : BAD_CLOCKS) Due.is("34 bad", x.appeal(b, 0), -1);
    for (int b : BAD_SPANS) Due.is("34 bad", x.appeal(0, b), -1);
  }

  static void spans() {
    LameClocks x = new LameClocks();
    Due.street(x, "c0,d0,o0");
    Due.skies(x, "n");
    Due.is("35 a cuckoo", x.spans(0, 0), 4);
    Due.is("35 a cuckoo", x.spans(0, 1), 7);
    Due.is("35 a sundial", x.spans(1, 0), 7);
    Due.is("35 a sundial", x.spans(1, 1), 201);
    Due.is("35 a stopped one", x.spans(2, 0), 7);
    Due.is("35 a stopped one", x.spans(2, 1), 7);
    for (int b : new int[] {-1, 3, Due.MIN, Due.MAX}) Due.is("35 bad", x.spans(b, 0), -1);
    for (int b : BAD_BITS) Due.is("35 bad", x.spans(0, b), -1);
    for (int h = 0; h < 3; h++) x.hour();
    Due.is("35 from now on", x.spans(0, 0), 2);
    for (int h = 0; h < 4; h++) x.hour();
    Due.is("35 home", x.spans(0, 0), 0);
    Due.is("35 home", x.spans(0, 1), 0);
  }

  static void nothingIsChanged() {
    LameClocks x = new LameClocks();
    Due.street(x, "p0*50,c700+7*30,d0,m300-5*40,t5*5");
    Due.course(x, "-1-2-3-4-5");
    Due.skies(x, "srwn");
    x.hour();
    x.wind(0, 4);
    x.bet(1, 10);
    String ahead = Due.state(x);
    x.behind(0, 50, 1);
    x.leads(50);
    x.finish(1);
    x.over();
    x.turns(0, 1, 30);
    x.hands(0, 1, 30);
    x.both(0, 1, 30, 0);
    x.duel(0, 1, 20, 0);
    x.breath(0, 20);
    x.right(0, 20);
    x.appeal(2, 20);
    x.spans(1, 1);
    x.struck(31, 12, 0);
    Due.same("24 to 36 change nothing", Due.state(x), ahead);
  }
}
