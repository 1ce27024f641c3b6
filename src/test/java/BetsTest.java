/** Promises 36 to 43: who struck, bets, lots, images. */
public final class BetsTest {
  public static void main(String[] args) {
    struck();
    struckEdges();
    bet();
    pays();
    paysMuch();
    settle();
    lots();
    lotsRefused();
    seed();
    image();
    imageAgain();
    imageOfRepairs();
    imageLeaves();
    Due.end();
  }

  static void struck() {
    LameClocks x = new LameClocks();
    Due.street(x, "p60,p120,p180,o0");
    Due.is("36 how many", x.struck(7, 3, 0), 2);
    Due.is("36 the least", x.struck(7, 3, 1), 3);
    Due.is("36 none surely", x.struck(7, 3, 2), 0);
    Due.is("36 all", x.struck(7, 6, 0), 1);
    Due.is("36 all", x.struck(7, 6, 1), 7);
    Due.is("36 all", x.struck(7, 6, 2), 7);
    Due.is("36 two", x.struck(7, 5, 1), 6);
    Due.is("36 of a lesser set", x.struck(5, 3, 0), 1);
    Due.is("36 of a lesser set", x.struck(5, 3, 1), 4);
    Due.is("36 12 for 0", x.struck(15, 15, 0), 2);
    Due.is("36 12 for 0", x.struck(15, 15, 1), 11);
    Due.is("36 who surely", x.struck(15, 15, 2), 8);
    Due.is("36 no set", x.struck(5, 2, 0), 0);
    Due.is("36 no set", x.struck(5, 2, 1), -4);
    Due.is("36 no set", x.struck(5, 2, 2), -4);
    Due.is("36 of none", x.struck(0, 1, 0), 0);
    Due.is("36 of none", x.struck(0, 1, 1), -4);
    for (int b : new int[] {-1, 16, 31, Due.MIN, Due.MAX}) Due.is("36 bad", x.struck(b, 1, 0), -1);
    for (int b : new int[] {-1, 0, 109, Due.MIN, Due.MAX}) Due.is("36 bad", x.struck(1, b, 0), -1);
    for (int b : new int[] {-1, 3, Due.MIN, Due.MAX}) Due.is("36 bad", x.struck(1, 1, b), -1);
    x.turn(0, 60);
    Due.is("36 now", x.struck(7, 2, 0), 2);
  }

  static void struckEdges() {
    LameClocks x = new LameClocks();
    Due.is("36 no clock", x.struck(0, 108, 0), 0);
    Due.is("36 no clock", x.struck(1, 1, 0), -1);
    Due.street(x, "p0,t0,d9,t0,o0,c0,m0,t0,p0");
    Due.is("36 nine times 12", x.struck(511, 108, 0), 1);
    Due.is("36 nine times 12", x.struck(511, 108, 2), 511);
    Due.is("36 twelve", x.struck(511, 12, 0), 9);
    Due.is("36 four of nine", x.struck(511, 48, 0), 126);
    Due.is("36 four of nine", x.struck(511, 48, 1), 15);
  }

  static void bet() {
    LameClocks x = new LameClocks();
    Due.is("37 no clock", x.bet(0, 1), -1);
    Due.street(x, "p0,p0");
    for (int b : new int[] {-1, 2, Due.MIN, Due.MAX}) Due.is("37 bad", x.bet(b, 1), -1);
    for (int b : new int[] {-1, 0, 1000, Due.MIN, Due.MAX}) Due.is("37 bad", x.bet(0, b), -1);
    for (int b = 0; b < 6; b++) Due.is("37 bet", x.bet(b % 2, b == 5 ? 999 : 1), b);
    Due.is("37 full", x.bet(0, 1), -3);
    Due.is("37 bad ahead of full", x.bet(2, 1), -1);
    Due.is("37 count", x.count(5), 6);
    Due.is("37 the last", x.pays(5, 0), 999);
  }

  static void pays() {
    LameClocks x = new LameClocks();
    Due.street(x, "p0,p0,p0,p0");
    Due.is("38 none", x.pays(0, 0), -1);
    x.bet(0, 100);
    x.bet(1, 50);
    x.bet(0, 25);
    x.bet(2, 1);
    int[][] due = {{0, 100, 50, 25, 1}, {1, 140, 0, 35, 0}, {2, 0, 176, 0, 0}, {3, 100, 50, 25, 0}, {4, 0, 0, 0, 176},
        {5, 139, 0, 34, 1}, {8, 100, 50, 25, 1}, {9, 140, 0, 35, 0}, {15, 100, 50, 25, 1}};
    for (int[] d : due) {
      for (int b = 0; b < 4; b++) Due.is("38 pays " + b + " by " + d[0], x.pays(b, d[0]), d[b + 1]);
    }
    for (int b : new int[] {-1, 4, Due.MIN, Due.MAX}) Due.is("38 bad", x.pays(b, 1), -1);
    for (int b : new int[] {-1, 16, Due.MIN, Due.MAX}) Due.is("38 bad", x.pays(0, b), -1);
    Due.is("38 changes nothing", x.count(5), 4);
  }

  static void paysMuch() {
    LameClocks x = new LameClocks();
    Due.street(x, "p0,p0");
    for (int b = 0; b < 5; b++) x.bet(0, 999);
    x.bet(1, 1);
    Due.is("38 much", x.pays(5, 2), 4996);
    Due.is("38 much", x.pays(0, 1), 4996 * 999 / 4995);
    Due.is("38 all", x.pays(0, 3), 999);
  }

  static void settle() {
    LameClocks x = new LameClocks();
    Due.is("39 none", x.settle(), 0);
    Due.street(x, "p0");
    x.bet(0, 3);
    x.bet(0, 4);
    Due.is("39 settle", x.settle(), 2);
    Due.is("39 gone", x.count(5), 0);
    Due.is("39 gone", x.pays(0, 0), -1);
    Due.is("39 a new one", x.bet(0, 9), 0);
    Due.is("39 its own", x.pays(0, 0), 9);
  }

  static void lots() {
    LameClocks x = new LameClocks();
    // From 1 on the draw tells SNOW SNOW RAIN NIGHT NIGHT NIGHT SNOW NIGHT SUN SNOW.
    Due.street(x, "d0,c0,p0");
    Due.course(x, "-----------");
    int[] gone = {2, 2, 2, 2, 2, 2, 2, 2, 2, 1};
    int[] heard = {0, 0, 6, 6, 6, 6, 0, 6, 6, 0};
    int[] cuckoo = {1, 2, 4, 5, 6, 7, 8, 9, 10, 10};
    for (int h = 0; h < 10; h++) {
      Due.is("40 lots " + h, x.lots(1), gone[h]);
      Due.is("40 heard " + h, x.heard(), heard[h]);
      Due.is("40 cuckoo " + h, x.told(1, 3), cuckoo[h]);
    }
    Due.is("40 the hour", x.count(2), 10);
    Due.is("40 the row stays", x.weather(0), 0);
    LameClocks y = new LameClocks();
    Due.street(y, "d0,c0,p0");
    Due.course(y, "-----------");
    Due.is("40 ten", y.lots(10), 19);
    Due.same("40 alike", Due.state(y), Due.state(x));
    Due.is("40 the draw", y.seed(0), x.seed(0));
    LameClocks z = new LameClocks();
    Due.street(z, "d0");
    Due.is("40 a sundial has no sun", z.lots(8), 0);
    Due.is("40 the ninth is sun", z.lots(1), 1);
    Due.is("40 sixty", y.lots(60) >= 0 ? 1 : 0, 1);
    Due.is("40 the hour", y.count(2), 70);
  }

  static void lotsRefused() {
    LameClocks x = new LameClocks();
    for (int b : new int[] {-1, 0, 61, Due.MIN, Due.MAX}) Due.is("40 bad", x.lots(b), -1);
    Due.is("40 no hour", x.count(2), 0);
    for (int i = 0; i < 166; i++) x.lots(60);
    int draw = x.seed(77);
    x.seed(draw);
    Due.is("40 full", x.lots(40), -3);
    Due.is("40 bad ahead of full", x.lots(61), -1);
    Due.is("40 the draw stays", x.seed(draw), draw);
    Due.is("40 the last ones", x.lots(39), 0);
    Due.is("40 the last", x.count(2), 9999);
    Due.is("40 full", x.lots(1), -3);
  }

  static void seed() {
    LameClocks x = new LameClocks();
    Due.is("41 1 at first", x.seed(0), 1);
    Due.is("41 bad", x.seed(-1), -1);
    Due.is("41 bad", x.seed(Due.MIN), -1);
    Due.is("41 as it was", x.seed(Due.MAX), 0);
    Due.is("41 the greatest", x.seed(1), Due.MAX);
    long draw = 1;
    for (int h = 0; h < 40; h++) {
      draw = (draw * 1103515245L + 12345L) % 2147483648L;
      x.lots(1);
      Due.is("40 draw " + h, x.seed((int) draw), draw);
    }
  }

  static void image() {
    LameClocks x = new LameClocks();
    Due.is("43 none", x.restore(), -4);
    Due.street(x, "p0*50,c700+7*30,d0,m300-5*40,t5*5");
    Due.course(x, "-1-2-3-4-5");
    Due.skies(x, "srwn");
    x.bet(1, 10);
    x.bet(2, 20);
    x.lots(3);
    x.tune(0, 5);
    String then = Due.state(x);
    int draw = x.seed(9);
    x.seed(draw);
    Due.is("42 image", x.image(), 1);
    Due.street(x, "o1,o2,o3,o4,o5,o6,o7,o8,o9");
    Due.course(x, "0123456789ab0123456789ab");
    Due.skies(x, "nnnnnnnnnnnn");
    x.settle();
    x.bet(8, 77);
    x.bet(7, 78);
    x.lots(9);
    Due.is("43 restore", x.restore(), 1);
    Due.same("43 as it was", Due.state(x), then);
    Due.is("43 the draw", x.seed(draw), draw);
  }

  static void imageAgain() {
    LameClocks x = new LameClocks();
    Due.street(x, "p0*50,c700+7*30");
    x.image();
    x.hour();
    x.strike();
    Due.is("43 restore", x.restore(), 1);
    x.strike();
    Due.is("43 once more", x.restore(), 1);
    Due.is("43 as it was", x.count(1), 2);
    Due.is("43 as it was", x.count(2), 0);
    x.hour();
    String later = Due.state(x);
    Due.is("42 a later one", x.image(), 1);
    x.hour();
    x.restore();
    Due.same("43 the later one", Due.state(x), later);
  }

  static void imageOfRepairs() {
    LameClocks x = new LameClocks();
    Due.street(x, "p0");
    x.clock(0, 9, 0, 0);
    x.paint(3, 3);
    x.tune(0, 5);
    x.turn(0, 7);
    x.image();
    x.restart();
    Due.is("43 none known", x.undo(), -4);
    x.breathe(3);
    x.turn(1, 9);
    x.wind(1, 9);
    x.restore();
    Due.is("43 two known", x.undo(), 1);
    Due.is("43 undone", x.told(0, 1), 0);
    Due.is("43 undone", x.undo(), 0);
    Due.is("43 undone", x.rate(0), 0);
  }

  static void imageLeaves() {
    LameClocks x = new LameClocks();
    x.sheet(1, 2, 5);
    x.type('s');
    x.image();
    x.type('r');
    x.drop(1);
    x.sheet(2, 2, 6);
    x.restore();
    Due.is("43 not the tape", x.type('n'), 3);
    Due.is("43 not sheets", x.drop(1), -11);
    Due.is("43 not sheets", x.drop(2), 6);
  }
}
