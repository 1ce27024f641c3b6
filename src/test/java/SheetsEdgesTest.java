/** Promises 44 to 50: each sentence that names an edge or a refusal has a test of its own. */
public final class SheetsEdgesTest {
  private static final int[] NO_SHEETS = {-1, 4, Due.MIN, Due.MAX};
  /** Of sheet 0 of UNDER_WAY, which has five bytes: where no item is. */
  private static final int[] NO_ITEMS_OF_5 = {-1, 5, Due.MIN, Due.MAX};

  public static void main(String[] args) {
    Due.runAll(SheetsEdgesTest.class);
  }

  /** Sheets of UNDER_WAY: 0 has the bytes 2 3 4 5 6, 1 the shorts 12 11 10, 2 is missing, 3 has longs, none. */
  private static void refused(String what, int due, Twins.Call call) {
    Twins.refused(what, due, Twins.UNDER_WAY, call);
  }

  /** An object with one sheet of a lane. */
  private static LameClocks with(int lane, long... items) {
    LameClocks x = new LameClocks();
    x.sheet(0, lane, items.length);
    for (int i = 0; i < items.length; i++) x.item(0, lane, i, items[i]);
    return x;
  }

  // ---- 44

  static void promise44NoSuchSheet() {
    for (int b : NO_SHEETS) Twins.refusedAlways("sheet " + b, -1, x -> x.dress(b, 0, 0, 1));
  }

  static void promise44NoSuchLane() {
    for (int b : NO_SHEETS) Twins.refusedAlways("lane " + b, -1, x -> x.dress(0, b, 0, 1));
  }

  static void promise44From1ToAsManyAsThereAre() {
    for (int b : new int[] {0, 9, -1, Due.MIN, Due.MAX}) refused("n " + b, -1, x -> x.dress(0, 0, 0, b));
    LameClocks x = with(2, 1, 2, 3, 4, 5, 6, 7, 8, 9);
    Due.is("1", x.dress(0, 2, 0, 1), 1);
    Due.is("dial", x.dial(0), 1);
    Due.is("the next one stays", x.dial(1), 12);
    Due.is("8", x.dress(0, 2, 1, 8), 8);
    for (int w = 0; w < 8; w++) Due.is("dial", x.dial(w), w + 2);
    Due.is("9 of eight", x.dress(0, 2, 0, 9), -1);
    Due.course(x, "---");
    Due.is("3 of three", x.dress(0, 2, 0, 3), 3);
    Due.is("4 of three", x.dress(0, 2, 0, 4), -1);
    x.sheet(1, 0, 24);
    Due.course(x, "-".repeat(24));
    Due.is("24 of 24", x.dress(1, 0, 0, 24), 24);
    Due.is("dial", x.dial(23), 0);
    Due.is("25", x.dress(1, 0, 0, 25), -1);
  }

  static void promise44ItemsAre0To12() {
    for (int lane = 0; lane < 4; lane++) {
      LameClocks x = with(lane, 0, 12, 13, -1);
      Due.is("0", x.dress(0, lane, 0, 1), 1);
      Due.is("dial", x.dial(0), 0);
      Due.is("12", x.dress(0, lane, 1, 1), 1);
      Due.is("dial", x.dial(0), 12);
      Due.is("13", x.dress(0, lane, 2, 1), -2);
      Due.is("-1", x.dress(0, lane, 3, 1), -2);
    }
    LameClocks x = with(3, 4294967296L, Long.MAX_VALUE, Long.MIN_VALUE);
    for (int i = 0; i < 3; i++) Due.is("longs", x.dress(0, 3, i, 1), -2);
    LameClocks y = with(2, Due.MAX, Due.MIN);
    for (int i = 0; i < 2; i++) Due.is("ints", y.dress(0, 2, i, 1), -2);
  }

  static void promise44NotChangesNothing() {
    Twins.Setup setup = x -> {
      Twins.UNDER_WAY.to(x);
      x.sheet(2, 3, 4);
      x.item(2, 3, 0, 7);
      x.item(2, 3, 3, 13);
    };
    Twins.refused("the last is 13", -2, setup, x -> x.dress(2, 3, 0, 4));
    LameClocks x = with(0, 1, 2, 13);
    Due.is("not", x.dress(0, 0, 0, 3), -2);
    for (int w = 0; w < 8; w++) Due.is("dial", x.dial(w), 12);
  }

  static void promise44Index() {
    for (int b : NO_ITEMS_OF_5) refused("from " + b, -13, x -> x.dress(0, 0, b, 1));
    refused("one too many", -13, x -> x.dress(0, 0, 1, 5));
    refused("of no item", -13, x -> x.dress(3, 3, 0, 1));
    LameClocks x = with(0, 1, 2, 3);
    Due.is("the last", x.dress(0, 0, 2, 1), 1);
    Due.is("all", x.dress(0, 0, 0, 3), 3);
    Due.is("one behind all", x.dress(0, 0, 0, 4), -13);
  }

  static void promise44InTheirOrder() {
    refused("bad ahead of null", -1, x -> x.dress(2, 0, 0, 0));
    refused("bad ahead of cast", -1, x -> x.dress(0, 1, 0, 9));
    refused("bad ahead of index", -1, x -> x.dress(0, 0, 9, 0));
    refused("null ahead of index", -11, x -> x.dress(2, 0, -1, 1));
    refused("null ahead of cast", -11, x -> x.dress(2, 3, 0, 1));
    refused("cast ahead of index", -12, x -> x.dress(0, 1, -1, 1));
    LameClocks x = with(0, 13, 13);
    Due.is("index ahead of not", x.dress(0, 0, 0, 3), -13);
    Due.is("cast ahead of not", x.dress(0, 1, 0, 1), -12);
    Due.is("not", x.dress(0, 0, 0, 2), -2);
  }

  // ---- 45

  static void promise45NoSuchSheet() {
    for (int b : NO_SHEETS) Twins.refusedAlways("sheet " + b, -1, x -> x.film(b, 0, 0));
  }

  static void promise45NoSuchLane() {
    for (int b : NO_SHEETS) Twins.refusedAlways("lane " + b, -1, x -> x.film(0, b, 0));
  }

  static void promise45Index() {
    for (int b : NO_ITEMS_OF_5) refused("from " + b, -13, x -> x.film(0, 0, b));
    refused("one too far", -13, x -> x.film(0, 0, 3));
    refused("of no item", -13, x -> x.film(3, 3, 0));
    LameClocks x = new LameClocks();
    Twins.UNDER_WAY.to(x);
    Due.is("to the last", x.film(0, 0, 2), 3);
    Due.is("the first", x.film(0, 0, 0), 3);
    Due.is("a sheet of three", x.film(1, 1, 0), 3);
    Due.is("a sheet of three", x.film(1, 1, 1), -13);
  }

  static void promise45InTheirOrder() {
    refused("bad ahead of null", -1, x -> x.film(2, 4, 0));
    refused("null", -11, x -> x.film(2, 0, -1));
    refused("null", -11, x -> x.film(2, 3, -1));
    refused("cast", -12, x -> x.film(0, 1, -1));
    refused("cast", -12, x -> x.film(3, 0, 0));
  }

  static void promise45WindowsOfAllClocks() {
    LameClocks x = new LameClocks();
    Due.course(x, "-".repeat(24));
    for (int c = 0; c < 9; c++) {
      x.clock(2, 0, 0, 0);
      x.hour();
    }
    x.sheet(0, 0, 10);
    x.item(0, 0, 0, 12);
    Due.is("nine", x.film(0, 0, 1), 9);
    Due.is("ahead of them", x.dress(0, 0, 0, 10), 10);
    Due.is("stays", x.dial(0), 12);
    for (int c = 0; c < 9; c++) Due.is("window of " + c, x.dial(c + 1), 9 - c);
  }

  static void promise45NoClock() {
    LameClocks x = with(0, 5, 6);
    Due.is("0", x.film(0, 0, 0), 0);
    Due.is("behind the last", x.film(0, 0, 2), 0);
    Due.is("too far", x.film(0, 0, 3), -13);
    Due.is("below", x.film(0, 0, -1), -13);
    Due.is("null", x.film(1, 0, 0), -11);
    Due.is("cast", x.film(0, 1, 0), -12);
    Due.is("nothing came", x.dress(0, 0, 0, 2), 2);
    Due.is("nothing came", x.dial(0), 5);
  }

  // ---- 46

  static void promise46NoSuchSheet() {
    for (int b : NO_SHEETS) Twins.refusedAlways("sheet " + b, -1, x -> x.seen(b, 0, 0));
  }

  static void promise46NoSuchLane() {
    for (int b : NO_SHEETS) Twins.refusedAlways("lane " + b, -1, x -> x.seen(0, b, 0));
  }

  static void promise46Index() {
    for (int b : NO_ITEMS_OF_5) refused("from " + b, -13, x -> x.seen(0, 0, b));
    refused("one too far", -13, x -> x.seen(0, 0, 3));
    refused("of no item", -13, x -> x.seen(3, 3, 0));
  }

  static void promise46InTheirOrder() {
    refused("bad ahead of null", -1, x -> x.seen(2, 4, 0));
    refused("null", -11, x -> x.seen(2, 0, -1));
    refused("null", -11, x -> x.seen(2, 3, -1));
    refused("cast", -12, x -> x.seen(0, 1, -1));
  }

  static void promise46BehindTheFewestHours0To200() {
    LameClocks x = with(0, 0, 1, 18);
    Due.street(x, "d0");
    Due.course(x, "-000000000000000007");
    Due.is("now", x.seen(0, 0, 0), 0);
    Due.is("behind 1", x.seen(0, 0, 1), 1);
    Due.is("behind 200", x.seen(0, 0, 2), 200);
    x.paint(18, 8);
    Due.is("behind 201", x.seen(0, 0, 2), -4);
    x.hour();
    Due.is("behind 200", x.seen(0, 0, 2), 200);
    Due.is("it was so, and is no more", x.seen(0, 0, 0), -4);
  }

  static void promise46AllClocksMustBeSo() {
    LameClocks x = with(0, 1, 1, 1, 2);
    Due.street(x, "o0,o60");
    Due.course(x, "-1-5");
    Due.is("never both in window 1", x.seen(0, 0, 0), -4);
    x.paint(1, 12);
    Due.is("both", x.seen(0, 0, 0), 1);
    Due.is("1 and 2", x.seen(0, 0, 2), -4);
  }

  static void promise46NoneOfItemsThatAreNoWindows() {
    LameClocks x = with(3, -1, 4294967296L, 8, Long.MIN_VALUE);
    Due.street(x, "o0");
    for (int i = 0; i < 4; i++) Due.is("seen", x.seen(0, 3, i), -4);
  }

  static void promise46NoClock() {
    LameClocks x = with(0, 5, 6);
    Due.is("now", x.seen(0, 0, 0), 0);
    Due.is("behind the last", x.seen(0, 0, 2), 0);
    Due.is("too far", x.seen(0, 0, 3), -13);
    Due.is("below", x.seen(0, 0, -1), -13);
    Due.is("null", x.seen(1, 0, 0), -11);
    Due.is("cast", x.seen(0, 1, 0), -12);
  }

  // ---- 47, 48

  static void promise47NoSuchSheet() {
    for (int b : NO_SHEETS) Twins.refusedAlways("sheet " + b, -1, x -> x.sheet(b, 0, 1));
  }

  static void promise47NoSuchLane() {
    for (int b : NO_SHEETS) Twins.refusedAlways("lane " + b, -1, x -> x.sheet(0, b, 1));
  }

  static void promise47Of0To24Items() {
    for (int sheet = 0; sheet < 4; sheet++) {
      for (int lane = 0; lane < 4; lane++) {
        LameClocks x = new LameClocks();
        Due.is("0", x.sheet(sheet, lane, 0), 0);
        Due.is("no item", x.item(sheet, lane, 0, 1), -13);
        Due.is("24", x.sheet(sheet, lane, 24), 24);
        Due.is("the last", x.item(sheet, lane, 23, 1), 1);
        Due.is("none behind it", x.item(sheet, lane, 24, 1), -13);
      }
    }
    for (int b : new int[] {25, Due.MAX}) Twins.refusedAlways("n " + b, -1, x -> x.sheet(0, 0, b));
    for (int b : new int[] {-1, Due.MIN}) Twins.refusedAlways("n " + b, -14, x -> x.sheet(0, 0, b));
    for (int b : new int[] {-1, Due.MIN}) Twins.refusedAlways("n " + b, -14, x -> x.sheet(2, 3, b));
  }

  static void promise47BadAheadOfSize() {
    Twins.refusedAlways("sheet", -1, x -> x.sheet(4, 0, -1));
    Twins.refusedAlways("lane", -1, x -> x.sheet(0, 4, -1));
  }

  static void promise47ANewRowOf0() {
    for (int lane = 0; lane < 4; lane++) {
      LameClocks x = with(lane, 5, 6, 7);
      for (int other = 0; other < 4; other++) {
        Due.is("again", x.sheet(0, other, 3), 3);
        Due.is("dress", x.dress(0, other, 0, 3), 3);
        for (int w = 0; w < 3; w++) {
          Due.is("0", x.dial(w), 0);
          x.item(0, other, w, 9);
        }
      }
      Due.is("its lane is another", x.item(0, 0, 0, 1), -12);
    }
  }

  static void promise48NoSuchSheet() {
    for (int b : NO_SHEETS) Twins.refusedAlways("drop " + b, -1, x -> x.drop(b));
  }

  static void promise48Null() {
    for (int sheet = 0; sheet < 4; sheet++) {
      int which = sheet;
      Twins.refused("drop", -11, Twins.FRESH, x -> x.drop(which));
    }
    refused("drop", -11, x -> x.drop(2));
  }

  static void promise48HowManyItemsItHad() {
    for (int n = 0; n <= 24; n++) {
      LameClocks x = new LameClocks();
      x.sheet(3, 2, n);
      Due.is("drop", x.drop(3), n);
      Due.is("nothing then", x.drop(3), -11);
      Due.is("nothing then", x.item(3, 2, 0, 1), -11);
    }
  }

  // ---- 49

  static void promise49NoSuchSheet() {
    for (int b : NO_SHEETS) Twins.refusedAlways("sheet " + b, -1, x -> x.item(b, 0, 0, 1));
  }

  static void promise49NoSuchLane() {
    for (int b : NO_SHEETS) Twins.refusedAlways("lane " + b, -1, x -> x.item(0, b, 0, 1));
  }

  static void promise49Index() {
    for (int b : NO_ITEMS_OF_5) refused("item " + b, -13, x -> x.item(0, 0, b, 1));
    refused("of no item", -13, x -> x.item(3, 3, 0, 1));
    LameClocks x = with(1, 0, 0, 0);
    Due.is("the first", x.item(0, 1, 0, 4), 1);
    Due.is("the last", x.item(0, 1, 2, 5), 1);
    x.dress(0, 1, 0, 3);
    Due.is("the first", x.dial(0), 4);
    Due.is("between", x.dial(1), 0);
    Due.is("the last", x.dial(2), 5);
  }

  static void promise49InTheirOrder() {
    refused("bad ahead of null", -1, x -> x.item(2, 4, -1, 1));
    for (int lane = 0; lane < 4; lane++) {
      int any = lane;
      refused("null", -11, x -> x.item(2, any, -1, 1));
    }
    for (int lane = 1; lane < 4; lane++) {
      int other = lane;
      refused("cast", -12, x -> x.item(0, other, -1, 1));
    }
  }

  /** Whether an item becomes 5, as seen by dress(). */
  private static void becomes5(int lane, long v, boolean so) {
    LameClocks x = with(lane, v);
    Due.is("item " + v + " of lane " + lane, x.dress(0, lane, 0, 1), so ? 1 : -2);
    Due.is("dial", x.dial(0), so ? 5 : 12);
  }

  static void promise49ItsLowestBits() {
    long[] width = {8, 16, 32};
    for (int lane = 0; lane < 4; lane++) {
      becomes5(lane, 5, true);
      for (int w = 0; w < 3; w++) {
        becomes5(lane, 5 + (1L << width[w]), lane <= w);
        becomes5(lane, 5 - (1L << width[w]), lane <= w);
        becomes5(lane, 5 + (1L << (width[w] - 1)), lane < w);
      }
      becomes5(lane, 5 + Long.MIN_VALUE, lane < 3);
    }
  }

  // ---- 50

  static void promise50NoSuchSheet() {
    for (int b : NO_SHEETS) {
      Twins.refusedAlways("from " + b, -1, x -> x.copy(b, 0, 0, 0, 0));
      Twins.refusedAlways("to " + b, -1, x -> x.copy(0, 0, b, 0, 0));
    }
  }

  static void promise50NullOfEither() {
    refused("from", -11, x -> x.copy(2, 0, 0, 0, 0));
    refused("to", -11, x -> x.copy(0, 0, 2, 0, 0));
    refused("both", -11, x -> x.copy(2, 0, 2, 0, 0));
  }

  static void promise50CastOfUnlikeLanes() {
    refused("bytes to shorts", -12, x -> x.copy(0, 0, 1, 0, 1));
    refused("shorts to bytes", -12, x -> x.copy(1, 0, 0, 0, 1));
    refused("no item", -12, x -> x.copy(0, 0, 3, 0, 0));
  }

  static void promise50Index() {
    for (int b : new int[] {-1, 6, Due.MIN, Due.MAX}) {
      refused("i " + b, -13, x -> x.copy(0, b, 0, 0, 0));
      refused("j " + b, -13, x -> x.copy(0, 0, 0, b, 0));
      refused("n " + b, -13, x -> x.copy(0, 0, 0, 0, b));
    }
    refused("from the last but one on", -13, x -> x.copy(0, 4, 0, 0, 2));
    refused("to the last but one on", -13, x -> x.copy(0, 0, 0, 4, 2));
    refused("all to 1", -13, x -> x.copy(0, 0, 0, 1, 5));
    refused("sums that go over", -13, x -> x.copy(0, Due.MAX, 0, 0, Due.MAX));
    refused("sums that go over", -13, x -> x.copy(0, 1, 0, 1, Due.MAX));
    refused("sums that go over", -13, x -> x.copy(0, Due.MIN, 0, Due.MIN, Due.MIN));
    refused("-1 of them", -13, x -> x.copy(0, 1, 0, 1, -1));
    LameClocks x = with(0, 1, 2, 3);
    x.sheet(1, 0, 2);
    Due.is("three to two", x.copy(0, 0, 1, 0, 3), -13);
    Due.is("two to two", x.copy(0, 1, 1, 0, 2), 2);
    Due.is("none, from behind the last", x.copy(0, 3, 1, 2, 0), 0);
    Due.is("one, from behind the last", x.copy(0, 3, 1, 1, 1), -13);
  }

  static void promise50InTheirOrder() {
    refused("bad ahead of null", -1, x -> x.copy(2, 0, 4, 0, 0));
    refused("bad ahead of null", -1, x -> x.copy(4, 0, 2, 0, 0));
    refused("null ahead of cast, index", -11, x -> x.copy(2, -1, 0, -1, -1));
    refused("null ahead of cast, index", -11, x -> x.copy(2, -1, 1, -1, -1));
    refused("null ahead of cast, index", -11, x -> x.copy(1, -1, 2, -1, -1));
    refused("cast ahead of index", -12, x -> x.copy(0, -1, 1, -1, -1));
  }

  private static void dials(LameClocks x, int sheet, int... want) {
    x.dress(sheet, 2, 0, want.length);
    for (int w = 0; w < want.length; w++) Due.is("item " + w, x.dial(w), want[w]);
  }

  static void promise50AsIfAllWereTakenAhead() {
    LameClocks x = with(2, 1, 2, 3, 4, 5);
    Due.is("onwards", x.copy(0, 0, 0, 1, 4), 4);
    dials(x, 0, 1, 1, 2, 3, 4);
    LameClocks y = with(2, 1, 2, 3, 4, 5);
    Due.is("backwards", y.copy(0, 1, 0, 0, 4), 4);
    dials(y, 0, 2, 3, 4, 5, 5);
    LameClocks z = with(2, 1, 2, 3, 4, 5);
    Due.is("to itself", z.copy(0, 0, 0, 0, 5), 5);
    dials(z, 0, 1, 2, 3, 4, 5);
  }

  static void promise50ToAnotherOne() {
    LameClocks x = with(2, 1, 2, 3, 4, 5);
    x.sheet(3, 2, 4);
    Due.is("copy", x.copy(0, 2, 3, 1, 2), 2);
    dials(x, 3, 0, 3, 4, 0);
    dials(x, 0, 1, 2, 3, 4, 5);
  }

  static void promise50NoneIsFine() {
    LameClocks x = with(2, 1);
    x.sheet(1, 2, 0);
    Due.is("to one of none", x.copy(0, 0, 1, 0, 0), 0);
    Due.is("from one of none", x.copy(1, 0, 0, 1, 0), 0);
    Due.is("one from one of none", x.copy(1, 0, 0, 0, 1), -13);
  }
}
