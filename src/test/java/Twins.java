/**
 * Two objects that were brought to the same state. One of them is then asked something that is refused, or that changes
 * nothing: from then on both must answer alike. Each part of the state is looked at on a new pair, as looking uses it up.
 */
final class Twins {
  interface Setup {
    void to(LameClocks x);
  }

  interface Call {
    int on(LameClocks x);
  }

  interface NumberCall {
    int on(LameClocks x, int which);
  }

  static final int[] BELOW_AND_FAR = {-1, Due.MIN, Due.MAX};
  static final Setup FRESH = x -> { };
  static final Setup UNDER_WAY = Twins::underWay;
  static final Setup FULL = Twins::full;
  static final Setup LATE = Twins::late;
  static final Setup[] ALL = {FRESH, UNDER_WAY, FULL, LATE};
  private static final String LETTERS = "sr w";
  private static final int PARTS = 5;

  private Twins() { }

  /** Three clocks on their way, bets, an image, repairs behind it, sheets of three lanes, one missing. */
  private static void underWay(LameClocks x) {
    Due.course(x, "-1-2-3-4");
    Due.street(x, "p0+1*50,c60+7*30,o120");
    Due.skies(x, "srwn");
    x.bet(0, 10);
    x.bet(2, 25);
    x.lots(3);
    x.tune(1, 4);
    x.image();
    x.wind(0, 4);
    x.turn(1, 100);
    x.tune(2, -5);
    x.breathe(7);
    x.hour();
    x.sheet(0, 0, 5);
    for (int i = 0; i < 5; i++) x.item(0, 0, i, i + 2);
    x.sheet(1, 1, 3);
    for (int i = 0; i < 3; i++) x.item(1, 1, i, 12 - i);
    x.sheet(3, 3, 0);
  }

  /** Nine clocks, six bets, 24 windows, ten repairs, an image of that. */
  private static void full(LameClocks x) {
    Due.street(x, "p0*99,c1,o2,d3,t4*9,m5,p6,p7,p719");
    Due.course(x, "0123456789ab0123456789ab");
    for (int b = 0; b < 6; b++) x.bet(b + 3, 100 + b);
    for (int i = 1; i <= 10; i++) x.turn(8 * (i % 2), i);
    x.image();
    x.sheet(2, 2, 24);
    for (int i = 0; i < 24; i++) x.item(2, 2, i, i % 13);
  }

  /** The last hour of all. */
  private static void late(LameClocks x) {
    Due.street(x, "o0,d0");
    x.paint(3, 7);
    for (int i = 0; i < 166; i++) x.lots(60);
    x.lots(39);
    x.wind(1, 3);
  }

  /** The call is refused with this answer, and has changed nothing. */
  static void refused(String what, int due, Setup setup, Call call) {
    refusedOn(LETTERS, LETTERS, what, due, setup, call);
  }

  /** A text is refused, with all as it was but THE TAPE, which is empty. */
  static void faulty(String text, int due, Setup setup, Call reader) {
    refusedOn(text, "", "of " + text, due, setup, reader);
  }

  /** In every situation. */
  static void refusedAlways(String what, int due, Call call) {
    for (Setup s : ALL) refused(what, due, s, call);
  }

  /** Numbers that name no clock in any situation, and those just behind the last one. */
  static void noSuchClock(String what, int due, NumberCall call) {
    for (int c : BELOW_AND_FAR) refusedAlways(what + " " + c, due, x -> call.on(x, c));
    refused(what + " of none", due, FRESH, x -> call.on(x, 0));
    refused(what + " 3 of three", due, UNDER_WAY, x -> call.on(x, 3));
    refused(what + " 9 of nine", due, FULL, x -> call.on(x, 9));
  }

  static void noSuchWindow(String what, NumberCall call) {
    for (int w : BELOW_AND_FAR) refusedAlways(what + " " + w, -1, x -> call.on(x, w));
    refused(what + " 8 of eight", -1, FRESH, x -> call.on(x, 8));
    refused(what + " 24 of 24", -1, FULL, x -> call.on(x, 24));
  }

  private static void refusedOn(String tape, String otherTape, String what, int due, Setup setup, Call call) {
    for (int part = 0; part < PARTS; part++) {
      LameClocks called = made(setup, tape);
      LameClocks other = made(setup, otherTape);
      Due.is(what, call.on(called), due);
      Due.same(what + " changes nothing (part " + part + ")", part(called, part), part(other, part));
    }
  }

  /** Whatever the call answers, nothing has changed by it. */
  static void onlyAsks(String what, Setup setup, Call call) {
    for (int part = 0; part < PARTS; part++) {
      LameClocks called = made(setup, LETTERS);
      LameClocks other = made(setup, LETTERS);
      int first = call.on(called);
      Due.is(what + " once more", call.on(called), first);
      Due.same(what + " changes nothing (part " + part + ")", part(called, part), part(other, part));
    }
  }

  /** By two ways to the same state in all its parts. */
  static void alike(String what, Setup one, Setup other) {
    for (int part = 0; part < PARTS; part++) {
      Due.same(what + " (part " + part + ")", part(made(one, ""), part), part(made(other, ""), part));
    }
  }

  private static LameClocks made(Setup setup, String tape) {
    LameClocks x = new LameClocks();
    setup.to(x);
    Due.type(x, tape);
    return x;
  }

  private static String part(LameClocks x, int part) {
    switch (part) {
      case 0: return Due.state(x) + " draw " + x.seed(0);
      case 1: return repairs(x);
      case 2: return x.restore() + " " + Due.state(x) + " draw " + x.seed(0);
      case 3: return sheets(x);
      default: return tape(x);
    }
  }

  private static String repairs(LameClocks x) {
    StringBuilder s = new StringBuilder();
    for (int i = 0; i < 11; i++) {
      s.append("undo ").append(x.undo());
      for (int c : new int[] {0, 1, 2, 8}) {
        s.append(' ').append(x.told(c, 1)).append(' ').append(x.told(c, 2)).append(' ').append(x.rate(c));
      }
      for (int w = 0; w < 8; w++) s.append(' ').append(x.dial(w));
      s.append("\n");
    }
    return s.toString();
  }

  private static String sheets(LameClocks x) {
    StringBuilder s = new StringBuilder();
    for (int sheet = 0; sheet < 4; sheet++) {
      for (int lane = 0; lane < 4; lane++) {
        for (int i = 0; i < 24; i++) {
          int dressed = x.dress(sheet, lane, i, 1);
          s.append(' ').append(dressed);
          if (dressed < 0) break;
          s.append(':').append(x.dial(0));
        }
      }
      s.append(" of ").append(x.drop(sheet)).append("\n");
    }
    return s.toString();
  }

  private static String tape(LameClocks x) {
    StringBuilder s = new StringBuilder();
    s.append(x.type('n')).append(' ').append(x.skies());
    for (int h = 0; h < 12; h++) s.append(' ').append(x.weather(h));
    return s.toString();
  }
}
