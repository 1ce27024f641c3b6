/** Promises 17 to 23: hours, repairs, what is undone. */
public final class HoursTest {
  public static void main(String[] args) {
    goes();
    dialsRunInTheHour();
    cuckoo();
    sundial();
    mayor();
    twin();
    runs();
    lastHour();
    wind();
    turn();
    tune();
    breathe();
    undo();
    undoBehindHours();
    tenAreKnown();
    restart();
    Due.end();
  }

  static void goes() {
    LameClocks x = new LameClocks();
    Due.is("17 none goes", x.hour(), 0);
    Due.is("17 the hour", x.count(2), 1);
    Due.street(x, "o60,o120");
    Due.course(x, "-1-2");
    Due.is("17 by what it strikes", x.hour(), 1);
    Due.is("17 window", x.told(0, 3), 1);
    Due.is("17 stays", x.told(1, 3), 0);
    Due.is("17 the dial it leaves", x.dial(0), 1);
    Due.is("17 the dial it comes to", x.dial(1), 1);
    Due.is("17 by none", x.hour(), 1);
    Due.is("17 window", x.told(0, 3), 2);
    Due.is("17 leaves 1", x.dial(1), 1);
    Due.is("17 not by 2", x.hour(), 0);
    Due.is("17 no finish", x.told(0, 4), -4);
    x.paint(3, 1);
    Due.is("17 home", x.hour(), 1);
    Due.is("17 finish", x.told(0, 4), 5);
    Due.is("17 who is home stays", x.hour(), 0);
    Due.is("17 finish stays", x.told(0, 4), 5);
  }

  static void dialsRunInTheHour() {
    LameClocks x = new LameClocks();
    // Clock 0 goes ahead in the hour 0; in the hour 1 it leaves 3 in window 1, which clock 1 sees in the same hour.
    Due.street(x, "o180,o180,o240");
    Due.course(x, "-3-5");
    x.paint(1, 3);
    Due.is("17 two strike 3", x.hour(), 2);
    x.paint(1, 12);
    Due.is("17 the two leave 3 in window 1 first", x.hour(), 2);
    Due.is("17 the third strikes 4", x.told(2, 3), 0);
    Due.is("17 dial", x.dial(1), 3);
    LameClocks y = new LameClocks();
    Due.street(y, "o240,o180");
    Due.course(y, "-34-");
    y.paint(1, 12);
    Due.is("17 both by none", y.hour(), 2);
    Due.is("17 the later one's is left", y.dial(0), 3);
    Due.is("17 by 4 alone", y.hour(), 1);
    Due.is("17 dial", y.dial(1), 4);
  }

  static void cuckoo() {
    LameClocks x = new LameClocks();
    Due.street(x, "c60,c60,p60");
    Due.course(x, "-1-9-");
    Due.skies(x, "rsr");
    Due.is("17 rain", x.hour(), 3);
    Due.is("17 two on", x.told(0, 3), 2);
    Due.is("17 one on", x.told(2, 3), 1);
    Due.is("17 only the window it leaves", x.dial(1), 1);
    Due.is("17 leaves", x.dial(0), 1);
    x.paint(3, 12);
    Due.is("17 sun", x.hour(), 3);
    Due.is("17 one on", x.told(0, 3), 3);
    Due.is("17 rain", x.hour(), 3);
    Due.is("17 home at most", x.told(0, 3), 4);
    Due.is("17 finish", x.told(1, 4), 3);
    LameClocks y = new LameClocks();
    Due.street(y, "c60");
    Due.course(y, "-21");
    Due.skies(y, "r");
    Due.is("17 not by the one behind the next", y.hour(), 0);
  }

  static void sundial() {
    LameClocks x = new LameClocks();
    Due.street(x, "d300*5");
    Due.course(x, "-01-----");
    Due.skies(x, "ssrwns");
    Due.is("17 by 0", x.hour(), 1);
    Due.is("17 by 1", x.hour(), 1);
    Due.is("17 left 0", x.dial(0), 0);
    Due.is("17 left 1", x.dial(1), 1);
    for (int h = 2; h < 5; h++) Due.is("17 only in sun", x.hour(), 0);
    Due.is("17 sun", x.hour(), 1);
    Due.is("17 left 5", x.dial(2), 5);
    Due.is("17 never runs", x.told(0, 2), 5);
    Due.is("17 hands", x.told(0, 1), 300);
  }

  static void mayor() {
    LameClocks x = new LameClocks();
    Due.street(x, "m60,p60");
    Due.course(x, "-22222-");
    Due.skies(x, "n");
    Due.is("17 hour 0", x.hour(), 1);
    Due.is("17 the mayor", x.told(0, 3), 1);
    Due.is("17 leaves 1", x.dial(0), 1);
    for (int h = 1; h < 6; h++) Due.is("17 not by 6", x.hour(), 0);
    Due.is("17 hour 6: the other one, too, by the 1 that is left", x.hour(), 2);
    Due.is("17 leaves 1", x.dial(1), 1);
    Due.is("17 the other one", x.told(1, 3), 1);
    Due.is("17 hour 7", x.hour(), 0);
    x.paint(3, 1);
    Due.is("17 hour 8: by what it strikes, too", x.hour(), 2);
    Due.is("17 the mayor", x.told(0, 3), 3);
  }

  static void twin() {
    LameClocks x = new LameClocks();
    Due.street(x, "o120,t60*9,t600+3*9");
    Due.course(x, "-2-");
    Due.is("17 all by 2", x.hour(), 3);
    Due.is("17 left 2", x.dial(0), 2);
    Due.is("17 a twin runs", x.told(1, 1), 120);
    Due.is("17 a twin runs by its rate", x.told(2, 1), 663);
    Due.is("17 its spring", x.told(2, 2), 8);
    Due.is("17 shown", x.told(2, 5), 120);
    LameClocks y = new LameClocks();
    Due.street(y, "d0,t0");
    Due.skies(y, "n");
    Due.is("17 a sundial's twin is no sundial", y.hour(), 1);
    Due.is("17 the twin", y.told(1, 3), 1);
  }

  static void runs() {
    LameClocks x = new LameClocks();
    Due.street(x, "p700*1,p700-30*2,c719+30*99,o5*5,d5*5,t5*5,m5*0");
    x.hour();
    int[] hands = {40, 10, 89, 5, 5, 65, 5};
    int[] springs = {0, 1, 98, 5, 5, 4, 0};
    for (int c = 0; c < 7; c++) Due.is("17 hands " + c, x.told(c, 1), hands[c]);
    for (int c = 0; c < 7; c++) Due.is("17 spring " + c, x.told(c, 2), springs[c]);
    for (int h = 0; h < 9; h++) x.hour();
    Due.is("17 with no spring", x.told(0, 1), 40);
    Due.is("17 at home, too", x.told(2, 1), (719 + 900) % 720);
    Due.is("17 at home", x.told(2, 3), 7);
  }

  static void lastHour() {
    LameClocks x = new LameClocks();
    Due.street(x, "o0");
    x.paint(1, 9);
    for (int i = 0; i < 166; i++) Due.is("40 lots", x.lots(60) >= 0 ? 0 : 1, 0);
    Due.is("17 hour", x.count(2), 9960);
    for (int h = 9960; h < 9999; h++) Due.is("17 hour", x.hour() >= 0 ? 0 : 1, 0);
    Due.is("17 hour", x.count(2), 9999);
    Due.is("17 full", x.hour(), -3);
    Due.is("24 what comes goes beyond", x.behind(0, 200, 0), x.told(0, 3));
    x.paint(1, 12);
    Due.is("26 finish beyond", x.finish(0), 9999 + 7);
    Due.is("27 over beyond", x.over(), 7);
    Due.is("17 nothing is changed", x.count(2), 9999);
    Due.is("23 restart", x.restart(), 0);
    Due.is("17 again", x.hour(), 1);
  }

  static void wind() {
    LameClocks x = new LameClocks();
    Due.street(x, "p0,o0*98");
    Due.is("18 wind", x.wind(0, 1), 1);
    Due.is("18 wind", x.wind(0, 99), 99);
    Due.is("18 99 at most", x.wind(1, 50), 99);
    Due.is("18 spring", x.told(1, 2), 99);
    Due.is("18 repairs", x.count(6), 3);
    int[][] bad = {{-1, 1}, {2, 1}, {0, 0}, {0, 100}, {0, -1}, {Due.MIN, 1}, {Due.MAX, 1}, {0, Due.MIN}, {0, Due.MAX}};
    for (int[] b : bad) Due.is("18 bad", x.wind(b[0], b[1]), -1);
    Due.is("18 repairs", x.count(6), 3);
  }

  static void turn() {
    LameClocks x = new LameClocks();
    Due.street(x, "p1,d700");
    Due.is("19 turn", x.turn(0, 718), 719);
    Due.is("19 turn", x.turn(0, 1), 0);
    Due.is("19 turn", x.turn(0, 719), 719);
    Due.is("19 turn a sundial", x.turn(1, 30), 10);
    Due.is("19 it shows what is true", x.told(1, 5), 0);
    int[][] bad = {{-1, 1}, {2, 1}, {0, 0}, {0, 720}, {0, -1}, {Due.MIN, 1}, {Due.MAX, 1}, {0, Due.MIN}, {0, Due.MAX}};
    for (int[] b : bad) Due.is("19 bad", x.turn(b[0], b[1]), -1);
    Due.is("19 hands", x.told(0, 1), 719);
    Due.is("19 repairs", x.count(6), 4);
  }

  static void tune() {
    LameClocks x = new LameClocks();
    Due.street(x, "p1-7");
    Due.is("20 tune", x.tune(0, 30), -7);
    Due.is("20 tune", x.tune(0, -30), 30);
    Due.is("20 tune alike", x.tune(0, -30), -30);
    Due.is("20 rate", x.rate(0), -30);
    int[][] bad = {{-1, 1}, {1, 1}, {0, 31}, {0, -31}, {Due.MIN, 1}, {Due.MAX, 1}, {0, Due.MIN}, {0, Due.MAX}};
    for (int[] b : bad) Due.is("20 bad", x.tune(b[0], b[1]), -1001);
    Due.is("20 rate", x.rate(0), -30);
    Due.is("20 repairs", x.count(6), 3);
  }

  static void breathe() {
    LameClocks x = new LameClocks();
    Due.course(x, "0b-");
    Due.is("21 breathe", x.breathe(0), 0);
    Due.is("21 breathe", x.breathe(1), 11);
    Due.is("21 it is none", x.breathe(0), -2);
    Due.is("21 it is none", x.breathe(2), -2);
    for (int b : new int[] {-1, 3, Due.MIN, Due.MAX}) Due.is("21 bad", x.breathe(b), -1);
    Due.is("21 dial", x.dial(1), 12);
    Due.is("21 repairs", x.count(6), 2);
  }

  static void undo() {
    LameClocks x = new LameClocks();
    Due.is("22 none", x.undo(), -4);
    Due.street(x, "p10+3*95");
    x.paint(4, 6);
    String ahead = Due.state(x);
    x.wind(0, 20);
    x.turn(0, 30);
    x.tune(0, -9);
    x.breathe(4);
    Due.is("22 dial", x.undo(), 3);
    Due.is("22 dial", x.dial(4), 6);
    Due.is("22 rate still", x.rate(0), -9);
    Due.is("22 rate", x.undo(), 2);
    Due.is("22 rate", x.rate(0), 3);
    Due.is("22 hands still", x.told(0, 1), 40);
    Due.is("22 hands", x.undo(), 1);
    Due.is("22 hands", x.told(0, 1), 10);
    Due.is("22 spring still", x.told(0, 2), 99);
    Due.is("22 spring", x.undo(), 0);
    Due.is("22 spring", x.told(0, 2), 95);
    Due.same("22 as at first", Due.state(x), ahead);
    Due.is("22 none", x.undo(), -4);
  }

  static void undoBehindHours() {
    LameClocks x = new LameClocks();
    Due.street(x, "p10+3*5");
    x.paint(1, 6);
    x.breathe(1);
    x.turn(0, 100);
    x.wind(0, 2);
    x.hour();
    x.hour();
    Due.is("22 dial", x.dial(1), 2);
    Due.is("22 spring as ahead of it", x.undo(), 2);
    Due.is("22 spring", x.told(0, 2), 5);
    Due.is("22 hands as ahead of it", x.undo(), 1);
    Due.is("22 hands", x.told(0, 1), 10);
    Due.is("22 dial as ahead of it", x.undo(), 0);
    Due.is("22 dial", x.dial(1), 6);
    Due.is("22 the window stays", x.told(0, 3), 2);
    Due.is("22 the hour stays", x.count(2), 2);
  }

  static void tenAreKnown() {
    LameClocks x = new LameClocks();
    Due.street(x, "p0,p0");
    for (int i = 1; i <= 12; i++) {
      x.turn(i % 2, i);
      Due.is("22 known", x.count(6), Math.min(i, 10));
    }
    for (int i = 9; i >= 0; i--) Due.is("22 undo", x.undo(), i);
    Due.is("22 none", x.undo(), -4);
    Due.is("22 the oldest are lost", x.told(1, 1), 1);
    Due.is("22 the oldest are lost", x.told(0, 1), 2);
    LameClocks y = new LameClocks();
    Due.street(y, "p0,p0,p0");
    y.paint(5, 5);
    y.tune(2, 1);
    y.breathe(5);
    for (int i = 1; i <= 9; i++) y.wind(i % 2, i);
    y.turn(2, 7);
    for (int i = 9; i >= 0; i--) Due.is("22 undo", y.undo(), i);
    Due.is("22 hands undone", y.told(2, 1), 0);
    Due.is("22 springs undone", y.told(0, 2) + y.told(1, 2), 0);
    Due.is("22 the second is lost", y.dial(5), 12);
    Due.is("22 the first is lost", y.rate(2), 1);
  }

  static void restart() {
    LameClocks x = new LameClocks();
    Due.is("23 none", x.restart(), 0);
    Due.street(x, "p0*9,o60,p60*3");
    Due.course(x, "-01");
    Due.skies(x, "sr");
    x.bet(2, 7);
    x.hour();
    x.hour();
    x.tune(0, 4);
    Due.is("23 home", x.count(3), 1);
    int dial = x.dial(0);
    Due.is("23 heard", x.heard() != 0 ? 1 : 0, 1);
    Due.is("23 restart", x.restart(), 1);
    int[] counts = {3, 3, 0, 0, 0, 1, 0, 3};
    for (int what = 0; what < 8; what++) Due.is("23 count " + what, x.count(what), counts[what]);
    Due.is("23 heard", x.heard(), 0);
    for (int c = 0; c < 3; c++) Due.is("23 window", x.told(c, 3), 0);
    for (int c = 0; c < 3; c++) Due.is("23 finish", x.told(c, 4), -4);
    Due.is("23 dials stay", x.dial(0), dial);
    Due.is("23 hands stay", x.told(0, 1), 120);
    Due.is("23 springs stay", x.told(0, 2), 7);
    Due.is("23 rates stay", x.rate(0), 4);
    Due.is("23 weather stays", x.weather(1), 1);
    Due.is("23 undo", x.undo(), -4);
  }
}
