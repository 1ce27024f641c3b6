/** Promises 44 to 50: sheets. */
public final class SheetsTest {
  public static void main(String[] args) {
    dress();
    dressRefused();
    film();
    filmRefused();
    seen();
    seenRefused();
    noClocks();
    sheet();
    drop();
    item();
    lowestBits();
    copy();
    copyRefused();
    Due.end();
  }

  /** In hour 1 the first leaves 1 in window 1, by which the third comes there. */
  static LameClocks three() {
    LameClocks x = new LameClocks();
    Due.street(x, "p0*99,o0,o60");
    Due.course(x, "-0123");
    return x;
  }

  static void dress() {
    for (int lane = 0; lane < 4; lane++) {
      LameClocks x = new LameClocks();
      x.sheet(3, lane, 10);
      for (int i = 0; i < 10; i++) x.item(3, lane, i, i + 3);
      Due.is("44 dress", x.dress(3, lane, 2, 8), 8);
      for (int w = 0; w < 8; w++) Due.is("44 dial", x.dial(w), w + 5);
      Due.is("44 one", x.dress(3, lane, 0, 1), 1);
      Due.is("44 the first", x.dial(0), 3);
      Due.is("44 the rest stays", x.dial(1), 6);
      Due.is("44 no repair", x.count(6), 0);
    }
  }

  static void dressRefused() {
    LameClocks x = new LameClocks();
    x.sheet(0, 1, 9);
    x.tune(0, 1);
    x.item(0, 1, 1, 13);
    x.item(0, 1, 4, -1);
    String ahead = Due.state(x);
    for (int b : new int[] {-1, 4, Due.MIN, Due.MAX}) Due.is("44 bad", x.dress(b, 1, 0, 1), -1);
    for (int b : new int[] {-1, 4, Due.MIN, Due.MAX}) Due.is("44 bad", x.dress(0, b, 0, 1), -1);
    for (int b : new int[] {-1, 0, 9, Due.MIN, Due.MAX}) Due.is("44 bad", x.dress(0, 1, 0, b), -1);
    Due.is("44 bad ahead of null", x.dress(1, 4, 0, 1), -1);
    Due.is("44 bad ahead of null", x.dress(1, 1, 0, 0), -1);
    Due.is("44 null", x.dress(1, 1, -1, 1), -11);
    Due.is("44 cast", x.dress(0, 2, -1, 1), -12);
    for (int b : new int[] {-1, 9, Due.MIN, Due.MAX}) Due.is("44 index", x.dress(0, 1, b, 1), -13);
    Due.is("44 index", x.dress(0, 1, 2, 8), -13);
    Due.is("44 index ahead of not", x.dress(0, 1, 4, 6), -13);
    Due.is("44 not", x.dress(0, 1, 0, 2), -2);
    Due.is("44 not", x.dress(0, 1, 3, 2), -2);
    Due.same("44 refused changes nothing", Due.state(x), ahead);
    x.sheet(2, 3, 1);
    x.item(2, 3, 0, 4294967296L);
    Due.is("44 not, of longs", x.dress(2, 3, 0, 1), -2);
    Due.course(x, "01");
    Due.is("44 as many as there are", x.dress(0, 1, 5, 3), -1);
    Due.is("44 as many as there are", x.dress(0, 1, 5, 2), 2);
  }

  static void film() {
    for (int lane = 0; lane < 4; lane++) {
      LameClocks x = three();
      x.hour();
      x.hour();
      x.sheet(0, lane, 5);
      for (int i = 0; i < 5; i++) x.item(0, lane, i, 9);
      Due.is("45 film", x.film(0, lane, 1), 3);
      x.sheet(1, lane, 1);
      int[] windows = {9, 2, 1, 1, 9};
      for (int i = 0; i < 5; i++) {
        Due.is("45 item", x.copy(0, i, 1, 0, 1), 1);
        Due.is("45 item", x.dress(1, lane, 0, 1), 1);
        Due.is("45 item " + i, x.dial(0), windows[i]);
      }
      Due.is("45 to the end", x.film(0, lane, 2), 3);
    }
  }

  static void filmRefused() {
    LameClocks x = three();
    x.hour();
    x.sheet(0, 2, 4);
    for (int b : new int[] {-1, 4, Due.MIN, Due.MAX}) Due.is("45 bad", x.film(b, 2, 0), -1);
    for (int b : new int[] {-1, 4, Due.MIN, Due.MAX}) Due.is("45 bad", x.film(0, b, 0), -1);
    Due.is("45 bad ahead of null", x.film(1, 4, 0), -1);
    Due.is("45 null", x.film(1, 2, -1), -11);
    Due.is("45 cast", x.film(0, 1, -1), -12);
    for (int b : new int[] {-1, 2, 4, Due.MIN, Due.MAX}) Due.is("45 index", x.film(0, 2, b), -13);
    Due.is("45 nothing came", x.dress(0, 2, 2, 2), 2);
    Due.is("45 nothing came", x.dial(0), 0);
  }

  static void seen() {
    LameClocks x = three();
    x.sheet(0, 0, 6);
    int[][] rows = {{0, 0, 0}, {1, 1, 0}, {2, 1, 1}, {3, 1, 1}, {4, 1, 1}};
    for (int h = 0; h < rows.length; h++) {
      for (int c = 0; c < 3; c++) x.item(0, 0, 3 + c, rows[h][c]);
      Due.is("46 seen " + h, x.seen(0, 0, 3), h);
    }
    x.item(0, 0, 4, 2);
    Due.is("46 none", x.seen(0, 0, 3), -4);
    x.item(0, 0, 4, -1);
    Due.is("46 none", x.seen(0, 0, 3), -4);
    x.hour();
    x.film(0, 0, 0);
    Due.is("46 now", x.seen(0, 0, 0), 0);
    Due.is("46 changes nothing", x.count(2), 1);
    LameClocks far = new LameClocks();
    Due.street(far, "d0");
    Due.course(far, "-000000000000000007");
    far.sheet(0, 3, 1);
    far.item(0, 3, 0, 18);
    Due.is("46 behind 200", far.seen(0, 3, 0), 200);
    far.paint(18, 8);
    Due.is("46 behind 201", far.seen(0, 3, 0), -4);
    far.item(0, 3, 0, 4294967296L);
    Due.is("46 longs", far.seen(0, 3, 0), -4);
  }

  static void seenRefused() {
    LameClocks x = three();
    x.sheet(0, 2, 4);
    for (int b : new int[] {-1, 4, Due.MIN, Due.MAX}) Due.is("46 bad", x.seen(b, 2, 0), -1);
    for (int b : new int[] {-1, 4, Due.MIN, Due.MAX}) Due.is("46 bad", x.seen(0, b, 0), -1);
    Due.is("46 bad ahead of null", x.seen(1, 4, 0), -1);
    Due.is("46 null", x.seen(1, 2, -1), -11);
    Due.is("46 cast", x.seen(0, 1, -1), -12);
    for (int b : new int[] {-1, 2, 4, Due.MIN, Due.MAX}) Due.is("46 index", x.seen(0, 2, b), -13);
  }

  static void noClocks() {
    LameClocks x = new LameClocks();
    x.sheet(0, 0, 2);
    Due.is("45 none", x.film(0, 0, 0), 0);
    Due.is("45 none", x.film(0, 0, 2), 0);
    Due.is("46 none", x.seen(0, 0, 2), 0);
    Due.is("45 null", x.film(1, 0, 0), -11);
    Due.is("46 null", x.seen(1, 0, 0), -11);
    Due.is("45 index", x.film(0, 0, 3), -13);
    Due.is("46 index", x.seen(0, 0, -1), -13);
  }

  static void sheet() {
    LameClocks x = new LameClocks();
    for (int s = 0; s < 4; s++) {
      for (int lane = 0; lane < 4; lane++) {
        Due.is("47 24", x.sheet(s, lane, 24), 24);
        Due.is("47 the last", x.item(s, lane, 23, 1), 1);
        Due.is("47 none behind it", x.item(s, lane, 24, 1), -13);
      }
    }
    Due.is("47 none", x.sheet(0, 0, 0), 0);
    Due.is("47 no item", x.item(0, 0, 0, 1), -13);
    for (int b : new int[] {-1, 4, Due.MIN, Due.MAX}) Due.is("47 bad", x.sheet(b, 0, 1), -1);
    for (int b : new int[] {-1, 4, Due.MIN, Due.MAX}) Due.is("47 bad", x.sheet(0, b, 1), -1);
    for (int b : new int[] {25, Due.MAX}) Due.is("47 bad", x.sheet(0, 0, b), -1);
    for (int b : new int[] {-1, Due.MIN}) Due.is("47 size", x.sheet(1, 0, b), -14);
    Due.is("47 bad ahead of size", x.sheet(4, 0, -1), -1);
    Due.is("47 bad ahead of size", x.sheet(0, 4, -1), -1);
    Due.is("47 refused changes nothing", x.item(1, 3, 23, 5), 1);
    Due.is("47 anew", x.sheet(1, 3, 24), 24);
    Due.is("47 new items are 0", x.dress(1, 3, 16, 8), 8);
    Due.is("47 new items are 0", x.dial(7), 0);
  }

  static void drop() {
    LameClocks x = new LameClocks();
    for (int s = 0; s < 4; s++) Due.is("48 null", x.drop(s), -11);
    for (int s = 0; s < 4; s++) x.sheet(s, s, s * 8);
    for (int s = 0; s < 4; s++) Due.is("48 drop", x.drop(s), s * 8);
    for (int s = 0; s < 4; s++) Due.is("48 null then", x.drop(s), -11);
    for (int b : new int[] {-1, 4, Due.MIN, Due.MAX}) Due.is("48 bad", x.drop(b), -1);
    x.sheet(0, 1, 3);
    x.item(0, 1, 2, 7);
    x.drop(0);
    x.sheet(0, 1, 3);
    Due.is("48 a new row", x.dress(0, 1, 2, 1), 1);
    Due.is("48 of 0", x.dial(0), 0);
    x.item(0, 1, 0, 7);
    x.sheet(0, 1, 3);
    Due.is("47 a new row", x.dress(0, 1, 0, 1), 1);
    Due.is("47 of 0", x.dial(0), 0);
  }

  static void item() {
    LameClocks x = new LameClocks();
    x.sheet(0, 1, 3);
    for (int b : new int[] {-1, 4, Due.MIN, Due.MAX}) Due.is("49 bad", x.item(b, 1, 0, 1), -1);
    for (int b : new int[] {-1, 4, Due.MIN, Due.MAX}) Due.is("49 bad", x.item(0, b, 0, 1), -1);
    Due.is("49 bad ahead of null", x.item(1, 4, 0, 1), -1);
    Due.is("49 null", x.item(1, 1, -1, 1), -11);
    Due.is("49 cast", x.item(0, 0, -1, 1), -12);
    Due.is("49 cast", x.item(0, 2, 0, 1), -12);
    for (int b : new int[] {-1, 3, Due.MIN, Due.MAX}) Due.is("49 index", x.item(0, 1, b, 1), -13);
    Due.is("49 item", x.item(0, 1, 2, 5), 1);
    Due.is("49 it", x.dress(0, 1, 2, 1), 1);
    Due.is("49 it", x.dial(0), 5);
  }

  static void lowestBits() {
    long[] high = {256L, 65536L, 4294967296L};
    for (int lane = 0; lane < 4; lane++) {
      LameClocks x = new LameClocks();
      x.sheet(0, lane, 1);
      for (int h = 0; h < 3; h++) {
        Due.is("49 item", x.item(0, lane, 0, high[h] + 7), 1);
        Due.is("49 lane " + lane + " cuts " + high[h], x.dress(0, lane, 0, 1), lane <= h ? 1 : -2);
        Due.is("49 item", x.item(0, lane, 0, high[h] / 2), 1);
        Due.is("49 a sign", x.dress(0, lane, 0, 1), lane < h ? 1 : -2);
      }
      x.item(0, lane, 0, Long.MIN_VALUE);
      Due.is("49 the least long", x.dress(0, lane, 0, 1), lane < 3 ? 1 : -2);
    }
  }

  static void copy() {
    for (int lane = 0; lane < 4; lane++) {
      LameClocks x = new LameClocks();
      x.sheet(0, lane, 8);
      x.sheet(1, lane, 3);
      for (int i = 0; i < 8; i++) x.item(0, lane, i, i);
      Due.is("50 onwards", x.copy(0, 0, 0, 2, 5), 5);
      dials(x, 0, lane, new int[] {0, 1, 0, 1, 2, 3, 4, 7});
      Due.is("50 backwards", x.copy(0, 3, 0, 0, 5), 5);
      dials(x, 0, lane, new int[] {1, 2, 3, 4, 7, 3, 4, 7});
      Due.is("50 to another one", x.copy(0, 3, 1, 1, 2), 2);
      dials(x, 1, lane, new int[] {0, 4, 7});
      Due.is("50 none", x.copy(0, 8, 1, 3, 0), 0);
      Due.is("50 all", x.copy(1, 0, 0, 5, 3), 3);
      dials(x, 0, lane, new int[] {1, 2, 3, 4, 7, 0, 4, 7});
    }
  }

  private static void dials(LameClocks x, int sheet, int lane, int[] want) {
    x.dress(sheet, lane, 0, want.length);
    for (int w = 0; w < want.length; w++) Due.is("50 item " + w, x.dial(w), want[w]);
  }

  static void copyRefused() {
    LameClocks x = new LameClocks();
    x.sheet(0, 1, 8);
    x.sheet(1, 1, 3);
    x.sheet(2, 2, 3);
    for (int b : new int[] {-1, 4, Due.MIN, Due.MAX}) Due.is("50 bad", x.copy(b, 0, 0, 0, 0), -1);
    for (int b : new int[] {-1, 4, Due.MIN, Due.MAX}) Due.is("50 bad", x.copy(0, 0, b, 0, 0), -1);
    Due.is("50 bad ahead of null", x.copy(3, 0, 4, 0, 0), -1);
    Due.is("50 null", x.copy(3, -1, 0, 0, 0), -11);
    Due.is("50 null", x.copy(0, 0, 3, -1, 0), -11);
    Due.is("50 null", x.copy(3, 0, 3, 0, 0), -11);
    Due.is("50 cast", x.copy(0, -1, 2, 0, 0), -12);
    Due.is("50 cast", x.copy(2, 0, 0, 0, -1), -12);
    int[][] bad = {{-1, 0, 1}, {0, -1, 1}, {0, 0, -1}, {0, 0, 4}, {6, 0, 3}, {0, 2, 2}, {9, 0, 0}, {0, 4, 0}, {-1, 0, 0},
        {0, -1, 0}, {Due.MAX, 0, 1}, {0, Due.MAX, 1}, {1, 0, Due.MAX}, {0, 0, Due.MIN}, {Due.MIN, 0, Due.MIN},
        {Due.MAX, Due.MAX, Due.MAX}};
    x.item(0, 1, 0, 5);
    for (int[] b : bad) Due.is("50 index", x.copy(0, b[0], 1, b[1], b[2]), -13);
    Due.is("50 nothing came", x.dress(1, 1, 0, 3), 3);
    Due.is("50 nothing came", x.dial(0), 0);
  }
}
