import java.lang.management.ManagementFactory;

/** All calls of a run share one room: once an object is made, no call of it may make another. */
public final class RoomTest {
  private static final com.sun.management.ThreadMXBean ROOM =
      (com.sun.management.ThreadMXBean) ManagementFactory.getThreadMXBean();

  public static void main(String[] args) {
    LameClocks x = new LameClocks();
    dear(x);
    int calls = 100;
    long ahead = ROOM.getCurrentThreadAllocatedBytes();
    for (int i = 0; i < calls; i++) dear(x);
    long used = ROOM.getCurrentThreadAllocatedBytes() - ahead;
    Due.holds("no room is used by calls: " + used + " bytes", used < 4096);
    Due.end();
  }

  private static void text(LameClocks x, String s) {
    for (int i = 0; i < s.length(); i++) x.type(s.charAt(i));
  }

  private static void dear(LameClocks x) {
    text(x, "p0*50,c700+7*30,d0,m300-5*40,t5*5,o9,p60,p120,p180");
    x.street();
    text(x, "-1-2-3-4-5-6-7-8-9-0-1-2");
    x.course();
    text(x, "srwn");
    x.skies();
    text(x, "h;w0+1;t1+5;b3;h");
    x.day();
    x.behind(0, 200, 1);
    x.leads(200);
    x.finish(1);
    x.over();
    x.turns(0, 1, 200);
    x.hands(0, 1, 200);
    x.both(8, 1, 60, 0);
    x.duel(0, 1, 60, 0);
    x.breath(0, 60);
    x.right(0, 200);
    x.appeal(2, 200);
    x.spans(1, 1);
    x.struck(511, 30, 2);
    x.bet(0, 5);
    x.pays(0, 3);
    x.lots(3);
    x.image();
    x.undo();
    x.strike();
    x.restore();
    x.restart();
    for (int lane = 0; lane < 4; lane++) {
      x.sheet(lane, lane, 24);
      x.item(lane, lane, 3, 4);
      x.dress(lane, lane, 0, 24);
      x.film(lane, lane, 2);
      x.seen(lane, lane, 3);
      x.copy(lane, 0, lane, 2, 20);
      x.drop(lane);
    }
  }
}
