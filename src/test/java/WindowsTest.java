/** Promises 1 to 16: windows, clocks, texts, counts. */
public final class WindowsTest {
  public static void main(String[] args) {
    newObject();
    clock();
    strike();
    told();
    shownByTwins();
    rate();
    dialAndPaint();
    weather();
    type();
    course();
    courseKeeps();
    skies();
    street();
    streetFaults();
    day();
    dayFaults();
    dayRefused();
    count();
    heard();
    place();
    Due.end();
  }

  static void newObject() {
    LameClocks x = new LameClocks();
    int[] counts = {8, 0, 0, 0, 0, 0, 0, 0};
    for (int what = 0; what < 8; what++) Due.is("1 count " + what, x.count(what), counts[what]);
    for (int w = 0; w < 8; w++) Due.is("1 dial " + w, x.dial(w), 12);
    Due.is("1 dial 8", x.dial(8), -1);
    Due.is("1 weather", x.weather(7), 0);
    Due.is("1 heard", x.heard(), 0);
    Due.is("1 seed", x.seed(5), 1);
    Due.is("1 drop", x.drop(0), -11);
    Due.is("1 restore", x.restore(), -4);
    Due.is("1 undo", x.undo(), -4);
    Due.is("1 type", x.type(' '), 1);
  }

  static void clock() {
    LameClocks x = new LameClocks();
    int[][] bad = {{-1, 0, 0, 0}, {6, 0, 0, 0}, {0, -1, 0, 0}, {0, 720, 0, 0}, {0, 0, -31, 0}, {0, 0, 31, 0},
        {0, 0, 0, -1}, {0, 0, 0, 100}, {Due.MIN, 0, 0, 0}, {0, Due.MAX, 0, 0}, {0, 0, Due.MIN, 0}, {0, 0, 0, Due.MAX}};
    for (int[] b : bad) Due.is("2 bad", x.clock(b[0], b[1], b[2], b[3]), -1);
    Due.is("2 none came", x.count(1), 0);
    for (int c = 0; c < 9; c++) Due.is("2 clock", x.clock(c % 6, c == 8 ? 719 : c, c % 2 == 0 ? 30 : -30, c * 12), c);
    String all = Due.state(x);
    Due.is("2 full", x.clock(0, 0, 0, 0), -3);
    Due.is("2 bad ahead of full", x.clock(6, 0, 0, 0), -1);
    Due.same("2 refused changes nothing", Due.state(x), all);
    Due.is("2 hands", x.told(8, 1), 719);
    Due.is("2 spring", x.told(8, 2), 96);
    Due.is("2 kind", x.told(5, 0), 5);
    Due.is("2 rate", x.rate(8), 30);
    Due.is("2 rate", x.rate(7), -30);
    Due.is("2 window", x.told(8, 3), 0);
    LameClocks late = new LameClocks();
    Due.street(late, "p0,p0");
    late.hour();
    Due.is("2 a clock that comes late", late.clock(0, 0, 0, 0), 2);
    Due.is("2 is at window 0", late.told(2, 3), 0);
    Due.is("2 is behind", late.place(2), 3);
    late.tune(0, 4);
    late.clock(0, 0, 0, 0);
    Due.is("2 repairs stay", late.count(6), 1);
  }

  static void strike() {
    LameClocks x = new LameClocks();
    Due.is("3 none", x.strike(), -4);
    Due.street(x, "p60*9,p120*9,p180*9");
    for (int b = 0; b < 6; b++) x.bet(b % 3, 10 + b);
    x.hour();
    Due.is("3 heard", x.heard(), 7);
    x.wind(0, 1);
    Due.is("3 repairs", x.count(6), 1);
    Due.is("3 strike", x.strike(), 2);
    Due.is("3 clocks", x.count(1), 2);
    Due.is("3 bets", x.count(5), 4);
    Due.is("3 heard", x.heard(), 3);
    Due.is("3 nothing to be undone", x.count(6), 0);
    Due.is("3 undo", x.undo(), -4);
    int[] stakes = {10, 11, 13, 14};
    for (int b = 0; b < 4; b++) Due.is("3 bets close up", x.pays(b, 0), stakes[b]);
    Due.is("3 told", x.told(2, 0), -1);
    Due.is("3 strike", x.strike(), 1);
    Due.is("3 strike", x.strike(), 0);
    Due.is("3 bets", x.count(5), 0);
    Due.is("3 heard", x.heard(), 0);
    Due.is("3 none", x.strike(), -4);
    Due.is("3 a new one", x.clock(2, 5, 0, 0), 0);
    Due.is("3 at window 0", x.told(0, 3), 0);
    Due.is("3 its kind", x.told(0, 0), 2);
  }

  static void told() {
    LameClocks x = new LameClocks();
    Due.street(x, "c719-3*7");
    Due.course(x, "--");
    int[] ahead = {1, 719, 7, 0, -4, 719, 11};
    for (int what = 0; what <= 6; what++) Due.is("4 told " + what, x.told(0, what), ahead[what]);
    x.hour();
    int[] behind = {1, 56, 6, 1, 1, 56, 0};
    for (int what = 0; what <= 6; what++) Due.is("4 told behind " + what, x.told(0, what), behind[what]);
    int[] bad = {-1, 7, Due.MIN, Due.MAX};
    for (int b : bad) Due.is("4 what " + b, x.told(0, b), -1);
    for (int b : new int[] {-1, 1, 9, Due.MIN, Due.MAX}) Due.is("4 clock " + b, x.told(b, 0), -1);
  }

  static void shownByTwins() {
    LameClocks x = new LameClocks();
    Due.street(x, "t130,t5,d300,t9,t10,p61,t7,o600*5,m119");
    int[] shown = {130, 130, 0, 0, 0, 61, 61, 600, 119};
    int[] strikes = {2, 2, 0, 0, 0, 1, 1, 10, 1};
    for (int c = 0; c < 9; c++) Due.is("4 shown " + c, x.told(c, 5), shown[c]);
    for (int c = 0; c < 9; c++) Due.is("4 strikes " + c, x.told(c, 6), strikes[c]);
    Due.is("4 hands of a twin", x.told(4, 1), 10);
    Due.is("4 hands of a sundial", x.told(2, 1), 300);
    for (int h = 0; h < 13; h++) x.hour();
    Due.is("4 a sundial shows what is true", x.told(2, 5), 60);
    Due.is("4 a twin of a twin of it", x.told(4, 5), 60);
    Due.is("4 its hands stay", x.told(2, 1), 300);
    Due.is("4 a stopped one's hands stay", x.told(7, 1), 600);
    Due.is("4 a stopped one's spring stays", x.told(7, 2), 5);
  }

  static void rate() {
    LameClocks x = new LameClocks();
    Due.is("5 none", x.rate(0), -1001);
    Due.street(x, "p0-30,p0+30,p0,p0-1");
    int[] rates = {-30, 30, 0, -1};
    for (int c = 0; c < 4; c++) Due.is("5 rate", x.rate(c), rates[c]);
    for (int b : new int[] {-1, 4, Due.MIN, Due.MAX}) Due.is("5 bad", x.rate(b), -1001);
  }

  static void dialAndPaint() {
    LameClocks x = new LameClocks();
    Due.is("7 paint", x.paint(0, 11), 12);
    Due.is("7 paint", x.paint(0, 0), 11);
    Due.is("7 paint", x.paint(7, 3), 12);
    Due.is("7 paint none", x.paint(0, 12), 0);
    Due.is("6 dial", x.dial(7), 3);
    Due.is("6 dial", x.dial(0), 12);
    int[][] bad = {{-1, 0}, {8, 0}, {0, -1}, {0, 13}, {Due.MIN, 0}, {Due.MAX, 0}, {0, Due.MIN}, {0, Due.MAX}};
    for (int[] b : bad) Due.is("7 bad", x.paint(b[0], b[1]), -1);
    Due.is("7 as it was", x.dial(0), 12);
    for (int b : new int[] {-1, 8, 24, Due.MIN, Due.MAX}) Due.is("6 bad", x.dial(b), -1);
    Due.is("7 is no repair", x.count(6), 0);
    Due.course(x, "01");
    Due.is("6 of two", x.dial(1), 1);
    Due.is("6 of two", x.dial(2), -1);
    Due.is("7 of two", x.paint(2, 1), -1);
  }

  static void weather() {
    LameClocks x = new LameClocks();
    Due.is("8 sun", x.weather(9999), 0);
    Due.skies(x, "srwns");
    int[] row = {0, 1, 2, 3, 0};
    for (int h = 0; h < 20; h++) Due.is("8 weather", x.weather(h), row[h % 5]);
    Due.is("8 the last", x.weather(9999), 0);
    Due.is("8 the last but one", x.weather(9998), 3);
    for (int b : new int[] {-1, 10000, Due.MIN, Due.MAX}) Due.is("8 bad", x.weather(b), -1);
  }

  static void type() {
    LameClocks x = new LameClocks();
    for (int b : new int[] {-1, 0, 31, 127, 128, Due.MIN, Due.MAX}) Due.is("9 bad", x.type(b), -1);
    for (int i = 1; i <= 160; i++) Due.is("9 type", x.type(i % 2 == 0 ? 32 : 126), i);
    Due.is("9 full", x.type(65), -3);
    Due.is("9 bad ahead of full", x.type(31), -1);
    Due.is("9 the tape is read", x.skies(), -20);
    Due.is("9 and empty then", x.type(115), 1);
    Due.is("9 skies", x.skies(), 1);
    for (int i = 1; i <= 160; i++) x.type(i == 1 ? 'r' : ' ');
    Due.is("9 a full tape is read to its end", x.skies(), 1);
    Due.is("9 the sky", x.weather(5), 1);
  }

  static void course() {
    LameClocks x = new LameClocks();
    Due.is("10 the end", x.course(), -20);
    Due.is("10 one", Due.course(x, "0"), -21);
    Due.is("10 one and blanks", Due.course(x, "  0  "), -21);
    Due.is("10 two", Due.course(x, "0b"), 2);
    Due.is("10 count", x.count(0), 2);
    Due.is("10 dial", x.dial(1), 11);
    Due.is("10 all signs", Due.course(x, "01234 56789ab-"), 13);
    for (int w = 0; w < 13; w++) Due.is("10 dial", x.dial(w), w);
    Due.is("10 24", Due.course(x, "0123456789ab0123456789ab"), 24);
    Due.is("10 dial", x.dial(23), 11);
    String ahead = Due.state(x);
    Due.is("10 25", Due.course(x, "0123456789ab0123456789ab0"), -44);
    Due.is("10 25 with a blank", Due.course(x, "0123456789ab 0123456789ab0"), -44);
    Due.is("10 c", Due.course(x, "00c"), -22);
    Due.is("10 A", Due.course(x, "0 0 A0"), -22);
    Due.is("10 a fault, too, behind 24", Due.course(x, "0123456789ab0123456789abx"), -44);
    for (String s : new String[] {"/", ":", "`", "c", ",", ".", "~", "!"}) {
      Due.is("10 " + s, Due.course(x, s), -20);
    }
    Due.same("10 all stays", Due.state(x), ahead);
  }

  static void courseKeeps() {
    LameClocks x = new LameClocks();
    Due.street(x, "p60*9,p60*9");
    Due.course(x, "--");
    x.bet(1, 5);
    x.hour();
    x.hour();
    x.tune(0, 3);
    Due.is("10 home", x.count(3), 2);
    Due.skies(x, "rr");
    Due.is("10 what comes does not matter", x.behind(0, 50, 0), 1);
    Due.is("10 what comes does not matter", x.right(0, 9), 1);
    Due.is("10 course", Due.course(x, "-0-"), 3);
    Due.is("10 none is home", x.count(3), 0);
    Due.is("10 at window 0", x.told(0, 3), 0);
    Due.is("10 no finish", x.told(0, 4), -4);
    Due.is("10 the hour stays", x.count(2), 2);
    Due.is("10 bets stay", x.count(5), 1);
    Due.is("10 clocks stay", x.count(1), 2);
    Due.is("10 hands stay", x.told(0, 1), 180);
    Due.is("10 weather stays", x.weather(0), 1);
    Due.is("10 nothing to be undone", x.undo(), -4);
    x.tune(0, 3);
    Due.is("10 a fault", Due.course(x, "-"), -21);
    Due.is("10 leaves repairs", x.count(6), 1);
  }

  static void skies() {
    LameClocks x = new LameClocks();
    Due.is("11 the end", x.skies(), -20);
    Due.is("11 blanks", Due.skies(x, "   "), -20);
    Due.is("11 all", Due.skies(x, "s r w n"), 4);
    for (int h = 0; h < 8; h++) Due.is("11 weather", x.weather(h), h % 4);
    Due.is("11 12", Due.skies(x, "nnnnnnnnnnnr"), 12);
    Due.is("11 the twelfth", x.weather(11), 1);
    Due.is("11 the thirteenth", x.weather(12), 3);
    String ahead = Due.state(x);
    Due.is("11 13", Due.skies(x, "ssssssssssss s"), -32);
    Due.is("11 letter", Due.skies(x, "s rx"), -22);
    Due.is("11 S", Due.skies(x, "S"), -20);
    Due.same("11 all stays", Due.state(x), ahead);
    Due.street(x, "p0");
    x.tune(0, 1);
    Due.is("11 one", Due.skies(x, "w"), 1);
    Due.is("11 one for all", x.weather(9999), 2);
    Due.is("11 repairs stay", x.count(6), 1);
  }

  static void street() {
    LameClocks x = new LameClocks();
    Due.is("12 street", Due.street(x, "p0+5*30, c 719 - 30 * 99,o 7,d0,t9*0,m007+00,p00000000000000000012"), 7);
    int[][] want = {{0, 0, 30, 5}, {1, 719, 99, -30}, {2, 7, 0, 0}, {3, 0, 0, 0}, {4, 9, 0, 0}, {5, 7, 0, 0}, {0, 12, 0, 0}};
    for (int c = 0; c < 7; c++) {
      for (int what = 0; what < 3; what++) Due.is("12 told " + c + " " + what, x.told(c, what), want[c][what]);
      Due.is("12 rate " + c, x.rate(c), want[c][3]);
    }
    x.bet(0, 3);
    x.paint(3, 4);
    x.hour();
    x.hour();
    x.wind(0, 1);
    Due.is("12 heard", x.heard() != 0 ? 1 : 0, 1);
    Due.is("12 in place of all", Due.street(x, "p60"), 1);
    int[] counts = {8, 1, 2, 0, 0, 0, 0, 0};
    for (int what = 0; what < 8; what++) Due.is("12 count " + what, x.count(what), counts[what]);
    Due.is("12 heard", x.heard(), 0);
    Due.is("12 dials stay", x.dial(3), 4);
    Due.is("12 window", x.told(0, 3), 0);
    Due.is("12 finish", x.told(0, 4), -4);
    Due.is("12 undo", x.undo(), -4);
    Due.is("12 nine", Due.street(x, "p1,p2,p3,p4,p5,p6,p7,p8,p9"), 9);
    Due.is("12 the ninth", x.told(8, 1), 9);
  }

  private static LameClocks oneUnderWay() {
    LameClocks x = new LameClocks();
    Due.street(x, "p60+1*5");
    x.bet(0, 9);
    x.hour();
    x.tune(0, 4);
    return x;
  }

  static void streetFaults() {
    String ahead = Due.state(oneUnderWay());
    String[] texts = {"", " ", "x", "P0", "p", "p 720", "p0+", "p0-", "p0 + 31", "p0*", "p0*100", "p0,", "p0,,",
        "p0;", "p1 2", "p0+1 2", "p0*1 2", "p0+-1", "p0*5+3", "p0+1+1", "p0*1*1", "p0p0", "p-1", "p0,p1,x",
        "p1,p2,p3,p4,p5,p6,p7,p8,p9,", "p1,p2,p3,p4,p5,p6,p7,p8,p9,p1", "p1,p2,p3,p4,p5,p6,p7,p8,p9;",
        "p99999999999999999999", "p4294967296", "p0+4294967296", "p0*4294967297", "p0,c720x", "0", ",p0", "p0*-1",
        "p1,p2,p3,p4,p5,p6,p7,p8,p720,"};
    int[] places = {0, 0, 0, 0, 1, 1, 3, 3, 3, 3, 3, 3, 3,
        2, 2, 4, 4, 3, 4, 4, 4, 2, 1, 6,
        26, 26, 26,
        1, 1, 3, 3, 4, 0, 0, 3,
        25};
    for (int i = 0; i < texts.length; i++) {
      LameClocks x = oneUnderWay();
      Due.is("12 fault of " + texts[i], Due.street(x, texts[i]), -20 - places[i]);
      Due.same("12 all stays", Due.state(x), ahead);
      Due.is("12 undo stays", x.undo(), 0);
    }
  }

  static void day() {
    LameClocks x = new LameClocks();
    Due.street(x, "p0*1,p60*95");
    x.paint(7, 5);
    x.paint(5, 3);
    Due.is("13 day", Due.day(x, "w1+99; t 0 + 719;b7;h;w0+1;b 5"), 6);
    Due.is("13 wound", x.told(1, 2), 98);
    Due.is("13 turned, run", x.told(0, 1), 59);
    Due.is("13 wound behind the hour", x.told(0, 2), 1);
    Due.is("13 breathed on", x.dial(7), 12);
    Due.is("13 breathed on", x.dial(5), 12);
    Due.is("13 the hour", x.count(2), 1);
    Due.is("13 repairs", x.count(6), 5);
    Due.is("13 undo", x.undo(), 4);
    Due.is("13 undone", x.dial(5), 3);
    StringBuilder hours = new StringBuilder("h");
    for (int i = 1; i < 80; i++) hours.append(";h");
    Due.is("13 eighty hours", Due.day(x, hours.toString()), 80);
    Due.is("13 the hour", x.count(2), 81);
    Due.is("13 empty then", Due.day(x, "h"), 1);
  }

  static void dayFaults() {
    LameClocks x = new LameClocks();
    Due.street(x, "p0*5");
    x.paint(3, 3);
    String ahead = Due.state(x);
    String[] texts = {"", "x", "h;", "h;;", ";", "hh", "h1", "w", "w0", "w0+", "w0+0", "w0+100", "w0-1", "wx+1", "w00+1",
        "t0+0", "t0+720", "t0+1 1", "b", "b3+1", "b 3 3", "h;h;w0+00;x", "H", "w 0 + 5 5", "t", "t0 1", "bx",
        "w0+1;t0+99999999999;h", "r0+1", "w0+1,h"};
    int[] places = {0, 0, 2, 2, 0, 1, 1, 1, 2, 3, 3, 3, 2, 1, 2,
        3, 3, 4, 1, 2, 2, 7, 0, 4, 1, 2, 1,
        8, 0, 4};
    for (int i = 0; i < texts.length; i++) {
      Due.is("13 fault of " + texts[i], Due.day(x, texts[i]), -20 - places[i]);
    }
    Due.same("13 nothing is done", Due.state(x), ahead);
  }

  static void dayRefused() {
    LameClocks x = new LameClocks();
    Due.street(x, "p0*5");
    Due.is("13 no such clock", Due.day(x, "w1+1;h"), 0);
    Due.is("13 no hour then", x.count(2), 0);
    Due.is("13 no such clock to turn", Due.day(x, "h;t9+1;h"), 1);
    Due.is("13 one hour", x.count(2), 1);
    Due.is("13 no such window", Due.day(x, "h;h;b8;h"), 2);
    Due.is("13 no such window at all", Due.day(x, "b99999999999999999999"), 0);
    Due.is("13 it is none", Due.day(x, "b7;h"), 0);
    Due.is("13 what was done stays", Due.day(x, "w0+9;b7;h"), 1);
    Due.is("13 wound", x.told(0, 2), 11);
    LameClocks late = new LameClocks();
    for (int i = 0; i < 166; i++) late.lots(60);
    late.lots(37);
    Due.is("13 late", late.count(2), 9997);
    Due.is("13 window 0", day0(), 1);
    Due.is("13 to the last hour", Due.day(late, "h;h;h;h"), 2);
    Due.is("13 the last", late.count(2), 9999);
  }

  static int day0() {
    LameClocks x = new LameClocks();
    x.paint(0, 4);
    int done = Due.day(x, "b0");
    Due.is("13 breathed on window 0", x.dial(0), 12);
    return done;
  }

  static void count() {
    LameClocks x = new LameClocks();
    Due.street(x, "p0*9,p60*9,p120*9,o60");
    Due.course(x, "--1");
    for (int b : new int[] {-1, 8, Due.MIN, Due.MAX}) Due.is("14 bad", x.count(b), -1);
    Due.is("14 tied at first", x.count(7), 6);
    x.bet(0, 1);
    x.bet(1, 1);
    // Clock 0 goes and leaves 0 in window 0; all the others see window 1 breathed on, and go too.
    Due.is("14 hour", x.hour(), 4);
    Due.is("14 strokes: 12 and 1 and 2 and 1", x.count(4), 16);
    // Now clock 0 strikes 1, and goes home leaving 1; the stopped one strikes 1 as well.
    Due.is("14 hour", x.hour(), 2);
    int[] counts = {3, 4, 2, 2, 2, 2, 0, 2};
    for (int what = 0; what < 8; what++) Due.is("14 count " + what, x.count(what), counts[what]);
    Due.is("14 heard", x.heard(), 9);
    x.wind(1, 1);
    Due.is("14 repairs", x.count(6), 1);
  }

  static void heard() {
    LameClocks x = new LameClocks();
    Due.street(x, "p60,d0,p120");
    Due.skies(x, "srwn");
    Due.is("15 at first", x.heard(), 0);
    Due.is("15 sun", x.hour(), 3);
    Due.is("15 all", x.heard(), 7);
    Due.is("15 strokes", x.count(4), 15);
    Due.is("15 rain", x.hour(), 2);
    Due.is("15 no sundial", x.heard(), 5);
    Due.is("15 snow", x.hour(), 2);
    Due.is("15 nothing in snow", x.heard(), 0);
    Due.is("15 no strokes in snow", x.count(4), 0);
    Due.is("15 night", x.hour(), 2);
    Due.is("15 in the night", x.heard(), 5);
    Due.is("15 strokes", x.count(4), 3);
  }

  static void place() {
    LameClocks x = new LameClocks();
    Due.is("16 none", x.place(0), -1);
    Due.street(x, "p0*99,p60*99,o120,o180");
    Due.course(x, "-012");
    // Hour 0: clock 0 goes to 1 (dial 0). Hour 1: 0 strikes 1, window 2 shows 1; and so on.
    x.hour();
    x.hour();
    Due.is("16 window", x.told(0, 3), 2);
    Due.is("16 the first", x.place(0), 1);
    for (int c = 1; c < 4; c++) Due.is("16 tied behind it", x.place(c), 2);
    x.hour();
    Due.is("16 home", x.told(0, 4), 3);
    for (int h = 0; h < 30; h++) x.hour();
    Due.is("16 home alone is ahead", x.place(0), 1);
    for (int b : new int[] {-1, 4, Due.MIN, Due.MAX}) Due.is("16 bad", x.place(b), -1);
    LameClocks y = new LameClocks();
    Due.street(y, "c0,p0,c0,p0,m0");
    Due.skies(y, "r");
    Due.course(y, "---");
    y.hour();
    y.hour();
    int[] places = {1, 3, 1, 3, 3};
    for (int c = 0; c < 5; c++) Due.is("16 by finish " + c, y.place(c), places[c]);
    Due.is("16 tied", y.count(7), 4);
  }
}
