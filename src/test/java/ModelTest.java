import java.lang.reflect.Array;
import java.math.BigInteger;
import java.util.ArrayDeque;
import java.util.ArrayList;
import java.util.Arrays;
import java.util.List;
import java.util.Random;
import java.util.function.ToIntFunction;

/**
 * Long random runs of calls, each answer against a second model, which was written from the document in another way:
 * clocks are objects of kinds below one another, states are copied whole, and every search is by trying all.
 */
public final class ModelTest {
  public static void main(String[] args) {
    for (int seed = 1; seed <= 900; seed++) new Run(seed).play();
    Due.end();
  }

  // ---- the second model

  static class Plain implements Cloneable {
    int kind, hands, rate, spring, window, finish;
    boolean home;

    int shown(State s, int self) { return hands; }

    boolean goes(State s, int self, int sky, int dial) { return dial == 12 || dial == shown(s, self) / 60; }

    int steps(int sky) { return 1; }

    void run() {
      if (spring <= 0) return;
      hands = ((hands + 60 + rate) % 720 + 720) % 720;
      spring = spring - 1;
    }

    Plain twinOf() {
      try {
        return (Plain) super.clone();
      } catch (CloneNotSupportedException e) {
        throw new IllegalStateException(e);
      }
    }
  }

  static class Cuckoo extends Plain {
    @Override int steps(int sky) { return sky == 1 ? 2 : 1; }
  }

  static class Stopped extends Plain {
    @Override void run() { }
  }

  static final class Sundial extends Stopped {
    @Override int shown(State s, int self) { return s.hour * 60 % 720; }

    @Override boolean goes(State s, int self, int sky, int dial) { return sky == 0 && super.goes(s, self, sky, dial); }
  }

  static final class Twin extends Plain {
    @Override int shown(State s, int self) { return self == 0 ? hands : s.clocks.get(self - 1).shown(s, self - 1); }
  }

  static final class Mayor extends Plain {
    @Override boolean goes(State s, int self, int sky, int dial) {
      return s.hour % 6 == 0 || super.goes(s, self, sky, dial);
    }
  }

  static Plain make(int kind, int hands, int rate, int spring) {
    Plain p = switch (kind) {
      case 0 -> new Plain();
      case 1 -> new Cuckoo();
      case 2 -> new Stopped();
      case 3 -> new Sundial();
      case 4 -> new Twin();
      default -> new Mayor();
    };
    p.kind = kind;
    p.hands = hands;
    p.rate = rate;
    p.spring = spring;
    return p;
  }

  record Repair(char what, int whom, int was) { }

  record Bet(int clock, int stake) { }

  static final class State {
    List<Plain> clocks = new ArrayList<>();
    int[] dials = {12, 12, 12, 12, 12, 12, 12, 12};
    String sky = "s";
    int hour, heard, strokes, draw = 1;
    List<Bet> bets = new ArrayList<>();
    ArrayDeque<Repair> repairs = new ArrayDeque<>();

    State copy() {
      State s = new State();
      for (Plain p : clocks) s.clocks.add(p.twinOf());
      s.dials = dials.clone();
      s.sky = sky;
      s.hour = hour;
      s.heard = heard;
      s.strokes = strokes;
      s.draw = draw;
      s.bets = new ArrayList<>(bets);
      s.repairs = new ArrayDeque<>(repairs);
      return s;
    }

    int sky(int h) { return "srwn".indexOf(sky.charAt(h % sky.length())); }

    int strikes(int c) { return clocks.get(c).shown(this, c) / 60; }

    int strokes(int c) { return (strikes(c) + 11) % 12 + 1; }

    int pass(int weather) {
      int gone = 0;
      heard = 0;
      strokes = 0;
      for (int c = 0; c < clocks.size(); c++) {
        Plain p = clocks.get(c);
        if (p.home || !p.goes(this, c, weather, dials[p.window + 1])) continue;
        gone++;
        if (weather != 2) {
          heard += 1 << c;
          strokes += strokes(c);
        }
        dials[p.window] = strikes(c);
        p.window = Math.min(dials.length - 1, p.window + p.steps(weather));
        if (p.window == dials.length - 1) {
          p.home = true;
          p.finish = hour + 1;
        }
      }
      for (Plain p : clocks) p.run();
      hour++;
      return gone;
    }

    State after(int n, int weather) {
      State s = copy();
      for (int i = 0; i < n; i++) s.pass(weather < 0 ? s.sky(s.hour) : weather);
      return s;
    }

    boolean ahead(Plain a, Plain b) {
      if (a.home && b.home) return a.finish < b.finish;
      if (a.home != b.home) return a.home;
      return a.window > b.window;
    }

    int place(int c) {
      int place = 1;
      for (Plain p : clocks) if (ahead(p, clocks.get(c))) place++;
      return place;
    }
  }

  /** The letters of a tape; a number is a run of digits that touch one another. */
  static final class Text {
    final List<Character> letters = new ArrayList<>();
    final List<Boolean> touches = new ArrayList<>();
    int at = 0;

    Text(String tape) {
      for (int i = 0; i < tape.length(); i++) {
        if (tape.charAt(i) == ' ') continue;
        letters.add(tape.charAt(i));
        touches.add(i > 0 && tape.charAt(i - 1) != ' ');
      }
    }

    char look() { return at < letters.size() ? letters.get(at) : '\n'; }

    boolean digit() { return look() >= '0' && look() <= '9'; }

    boolean take(char c) {
      if (look() != c) return false;
      at++;
      return true;
    }

    void need(char c) {
      if (!take(c)) throw new Fault(at);
    }

    int number(int least, long most) {
      int first = at;
      StringBuilder s = new StringBuilder();
      while (digit() && (at == first || touches.get(at))) {
        s.append(look());
        at++;
      }
      if (s.length() == 0) throw new Fault(first);
      BigInteger v = new BigInteger(s.toString());
      if (v.compareTo(BigInteger.valueOf(least)) < 0 || v.compareTo(BigInteger.valueOf(most)) > 0) {
        throw new Fault(first);
      }
      return v.min(BigInteger.valueOf(1000000)).intValue();
    }

    boolean ended() { return at == letters.size(); }
  }

  static final class Fault extends RuntimeException {
    private static final long serialVersionUID = 1L;
    final int place;

    Fault(int place) { this.place = place; }
  }

  static final class Model {
    State s = new State();
    State kept = null;
    StringBuilder tape = new StringBuilder();
    final Object[] sheets = new Object[4];

    boolean noClock(int c) { return c < 0 || c >= s.clocks.size(); }

    boolean noWindow(int w) { return w < 0 || w >= s.dials.length; }

    static boolean out(int v, int least, int most) { return v < least || v > most; }

    int clock(int kind, int hands, int rate, int spring) {
      if (out(kind, 0, 5) || out(hands, 0, 719) || out(rate, -30, 30) || out(spring, 0, 99)) return -1;
      if (s.clocks.size() == 9) return -3;
      s.clocks.add(make(kind, hands, rate, spring));
      return s.clocks.size() - 1;
    }

    int strike() {
      if (s.clocks.isEmpty()) return -4;
      int last = s.clocks.size() - 1;
      s.clocks.remove(last);
      s.bets.removeIf(b -> b.clock == last);
      s.heard &= (1 << last) - 1;
      s.repairs.clear();
      return last;
    }

    int told(int c, int what) {
      if (noClock(c) || out(what, 0, 6)) return -1;
      Plain p = s.clocks.get(c);
      int[] all = {p.kind, p.hands, p.spring, p.window, p.home ? p.finish : -4, p.shown(s, c), s.strikes(c)};
      return all[what];
    }

    int rate(int c) { return noClock(c) ? -1001 : s.clocks.get(c).rate; }

    int dial(int w) { return noWindow(w) ? -1 : s.dials[w]; }

    int paint(int w, int v) {
      if (noWindow(w) || out(v, 0, 12)) return -1;
      int was = s.dials[w];
      s.dials[w] = v;
      return was;
    }

    int weather(int h) { return out(h, 0, 9999) ? -1 : s.sky(h); }

    int type(int letter) {
      if (out(letter, 32, 126)) return -1;
      if (tape.length() == 160) return -3;
      tape.append((char) letter);
      return tape.length();
    }

    int read(ToIntFunction<Text> reader) {
      Text t = new Text(tape.toString());
      tape = new StringBuilder();
      try {
        return reader.applyAsInt(t);
      } catch (Fault f) {
        return -20 - f.place;
      }
    }

    static String signs(Text t, String of, int least, int most) {
      StringBuilder signs = new StringBuilder();
      for (; !t.ended(); t.at++) {
        if (of.indexOf(t.look()) < 0 || signs.length() == most) throw new Fault(t.at);
        signs.append(t.look());
      }
      if (signs.length() < least) throw new Fault(t.at);
      return signs.toString();
    }

    int course() {
      return read(t -> {
        String signs = signs(t, "0123456789ab-", 2, 24);
        s.dials = new int[signs.length()];
        for (int w = 0; w < s.dials.length; w++) s.dials[w] = "0123456789ab-".indexOf(signs.charAt(w));
        toStart();
        return s.dials.length;
      });
    }

    void toStart() {
      for (Plain p : s.clocks) {
        p.window = 0;
        p.home = false;
      }
      s.repairs.clear();
    }

    int skies() {
      return read(t -> {
        s.sky = signs(t, "srwn", 1, 12);
        return s.sky.length();
      });
    }

    int street() {
      return read(t -> {
        List<Plain> row = new ArrayList<>();
        do {
          if (row.size() == 9) throw new Fault(t.at - 1);
          int kind = t.ended() ? -1 : "pcodtm".indexOf(t.look());
          if (kind < 0) throw new Fault(t.at);
          t.at++;
          int hands = t.number(0, 719);
          int rate = t.take('+') ? t.number(0, 30) : t.take('-') ? -t.number(0, 30) : 0;
          int spring = t.take('*') ? t.number(0, 99) : 0;
          row.add(make(kind, hands, rate, spring));
        } while (t.take(','));
        if (!t.ended()) throw new Fault(t.at);
        s.clocks = row;
        s.bets.clear();
        s.repairs.clear();
        s.heard = 0;
        s.strokes = 0;
        return row.size();
      });
    }

    int day() {
      return read(t -> {
        List<int[]> acts = new ArrayList<>();
        do {
          int[] act = {t.look(), 0, 0};
          if (t.take('w') || t.take('t')) {
            if (!t.digit()) throw new Fault(t.at);
            act[1] = t.look() - '0';
            t.at++;
            t.need('+');
            act[2] = t.number(1, act[0] == 'w' ? 99 : 719);
          } else if (t.take('b')) {
            act[1] = t.number(0, Long.MAX_VALUE);
          } else {
            t.need('h');
          }
          acts.add(act);
        } while (t.take(';'));
        if (!t.ended()) throw new Fault(t.at);
        for (int i = 0; i < acts.size(); i++) {
          int[] a = acts.get(i);
          int answer = switch (a[0]) {
            case 'w' -> wind(a[1], a[2]);
            case 't' -> turn(a[1], a[2]);
            case 'b' -> breathe(a[1]);
            default -> hour();
          };
          if (answer < 0) return i;
        }
        return acts.size();
      });
    }

    int home() {
      int n = 0;
      for (Plain p : s.clocks) if (p.home) n++;
      return n;
    }

    int count(int what) {
      if (out(what, 0, 7)) return -1;
      int tied = 0;
      for (int a = 0; a < s.clocks.size(); a++) {
        for (int b = a + 1; b < s.clocks.size(); b++) if (s.place(a) == s.place(b)) tied++;
      }
      int[] all = {s.dials.length, s.clocks.size(), s.hour, home(), s.strokes, s.bets.size(), s.repairs.size(), tied};
      return all[what];
    }

    int heard() { return s.heard; }

    int place(int c) { return noClock(c) ? -1 : s.place(c); }

    int hour() { return s.hour == 9999 ? -3 : s.pass(s.sky(s.hour)); }

    void repair(char what, int whom, int was) {
      s.repairs.push(new Repair(what, whom, was));
      if (s.repairs.size() > 10) s.repairs.removeLast();
    }

    int wind(int c, int n) {
      if (noClock(c) || out(n, 1, 99)) return -1;
      repair('w', c, s.clocks.get(c).spring);
      return s.clocks.get(c).spring = Math.min(99, s.clocks.get(c).spring + n);
    }

    int turn(int c, int n) {
      if (noClock(c) || out(n, 1, 719)) return -1;
      repair('t', c, s.clocks.get(c).hands);
      return s.clocks.get(c).hands = (s.clocks.get(c).hands + n) % 720;
    }

    int tune(int c, int v) {
      if (noClock(c) || out(v, -30, 30)) return -1001;
      int was = s.clocks.get(c).rate;
      repair('r', c, was);
      s.clocks.get(c).rate = v;
      return was;
    }

    int breathe(int w) {
      if (noWindow(w)) return -1;
      if (s.dials[w] == 12) return -2;
      repair('b', w, s.dials[w]);
      return paint(w, 12);
    }

    int undo() {
      if (s.repairs.isEmpty()) return -4;
      Repair r = s.repairs.pop();
      switch (r.what) {
        case 'w' -> s.clocks.get(r.whom).spring = r.was;
        case 't' -> s.clocks.get(r.whom).hands = r.was;
        case 'r' -> s.clocks.get(r.whom).rate = r.was;
        default -> s.dials[r.whom] = r.was;
      }
      return s.repairs.size();
    }

    int restart() {
      int n = home();
      toStart();
      s.hour = 0;
      s.heard = 0;
      s.strokes = 0;
      return n;
    }

    int behind(int c, int n, int what) {
      if (noClock(c) || out(n, 0, 200) || out(what, 0, 1)) return -1;
      State then = s.after(n, -1);
      return what == 0 ? then.clocks.get(c).window : then.place(c);
    }

    int leads(int n) {
      if (out(n, 0, 200)) return -1;
      State then = s.after(n, -1);
      int set = 0;
      for (int c = 0; c < s.clocks.size(); c++) if (then.place(c) == 1) set += 1 << c;
      return set;
    }

    int finish(int c) {
      if (noClock(c)) return -1;
      Plain p = s.after(200, -1).clocks.get(c);
      return p.home ? p.finish : -4;
    }

    int over() {
      int hours = 0;
      for (Plain p : s.after(200, -1).clocks) {
        if (!p.home) return -4;
        hours = Math.max(hours, p.finish - s.hour);
      }
      return hours;
    }

    boolean reaches(int c, int p, int n, int turns, int hours) {
      State would = s.copy();
      Plain clock = would.clocks.get(c);
      clock.spring = Math.min(99, clock.spring + turns);
      clock.hands = (clock.hands + 60 * hours) % 720;
      return would.after(n, -1).place(c) <= p;
    }

    boolean noAim(int c, int p, int n) { return noClock(c) || out(p, 1, 9) || out(n, 0, 200); }

    int turns(int c, int p, int n) {
      if (noAim(c, p, n)) return -1;
      for (int t = 0; t <= 40; t++) if (reaches(c, p, n, t, 0)) return t;
      return -4;
    }

    int hands(int c, int p, int n) {
      if (noAim(c, p, n)) return -1;
      for (int h = 0; h <= 11; h++) if (reaches(c, p, n, 0, h)) return h;
      return -4;
    }

    int both(int c, int p, int n, int what) {
      if (noAim(c, p, n) || out(what, 0, 1)) return -1;
      int best = Integer.MAX_VALUE;
      for (int h = 0; h <= 11; h++) {
        for (int t = 0; t <= 40; t++) {
          if (100 * (h + t) + h < best && reaches(c, p, n, t, h)) best = 100 * (h + t) + h;
        }
      }
      if (best == Integer.MAX_VALUE) return -4;
      return what == 0 ? best / 100 : best % 100;
    }

    int duel(int a, int b, int n, int what) {
      if (noClock(a) || noClock(b) || a == b || out(n, 0, 200) || out(what, 0, 1)) return -1;
      int[][] gain = new int[12][12];
      for (int i = 0; i < 12; i++) {
        for (int j = 0; j < 12; j++) {
          State would = s.copy();
          would.clocks.get(a).hands = (would.clocks.get(a).hands + 60 * i) % 720;
          would.clocks.get(b).hands = (would.clocks.get(b).hands + 60 * j) % 720;
          State then = would.after(n, -1);
          gain[i][j] = then.clocks.get(a).window - then.clocks.get(b).window;
        }
      }
      List<Integer> rests = new ArrayList<>();
      for (int i = 0; i < 12; i++) {
        for (int j = 0; j < 12; j++) {
          int col = j;
          int most = Arrays.stream(gain).mapToInt(row -> row[col]).max().getAsInt();
          int least = Arrays.stream(gain[i]).min().getAsInt();
          if (gain[i][j] == most && gain[i][j] == least) rests.add(100 * i + j);
        }
      }
      return what == 0 ? rests.size() : rests.isEmpty() ? -4 : rests.get(0);
    }

    int breath(int c, int n) {
      if (noClock(c) || out(n, 0, 200)) return -1;
      int[] windows = new int[s.dials.length];
      for (int w = 0; w < windows.length; w++) {
        State would = s.copy();
        would.dials[w] = 12;
        windows[w] = would.after(n, -1).clocks.get(c).window;
      }
      int most = Arrays.stream(windows).max().getAsInt();
      if (most <= s.after(n, -1).clocks.get(c).window) return -4;
      for (int w = 0; w < windows.length; w++) if (windows[w] == most) return w;
      return -4;
    }

    int right(int c, int n) {
      if (noClock(c) || out(n, 0, 200)) return -1;
      int times = 0;
      for (int h = 0; h < n; h++) if (s.after(h, -1).strikes(c) == (s.hour + h) % 12) times++;
      return times;
    }

    int appeal(int c, int n) { return noClock(c) || out(n, 0, 200) ? -1 : s.after(n, 0).place(c); }

    int spans(int c, int what) {
      if (noClock(c) || out(what, 0, 1)) return -1;
      if (s.clocks.get(c).home) return 0;
      int[] hours = new int[4];
      for (int weather = 0; weather < 4; weather++) {
        Plain p = s.after(200, weather).clocks.get(c);
        hours[weather] = p.home ? p.finish - s.hour : 201;
      }
      Arrays.sort(hours);
      return hours[what * 3];
    }

    int struck(int set, int strokes, int what) {
      if (set < 0 || set >> s.clocks.size() != 0 || out(strokes, 1, 108) || out(what, 0, 2)) return -1;
      List<Integer> sets = new ArrayList<>();
      for (int some = 0; some < 512; some++) {
        int sum = 0;
        for (int c = 0; c < 9; c++) if ((some & set & 1 << c) != 0) sum += s.strokes(c);
        if ((some | set) == set && sum == strokes) sets.add(some);
      }
      if (what == 0) return sets.size();
      if (sets.isEmpty()) return -4;
      return what == 1 ? sets.get(0) : sets.stream().reduce(511, (a, b) -> a & b);
    }

    int bet(int c, int stake) {
      if (noClock(c) || out(stake, 1, 999)) return -1;
      if (s.bets.size() == 6) return -3;
      s.bets.add(new Bet(c, stake));
      return s.bets.size() - 1;
    }

    int pays(int bet, int set) {
      if (out(bet, 0, s.bets.size() - 1) || set < 0 || set >> s.clocks.size() != 0) return -1;
      long all = s.bets.stream().mapToLong(b -> b.stake).sum();
      long won = s.bets.stream().filter(b -> (set >> b.clock) % 2 == 1).mapToLong(b -> b.stake).sum();
      Bet b = s.bets.get(bet);
      if (won == 0) return b.stake;
      return (set >> b.clock) % 2 == 1 ? (int) (all * b.stake / won) : 0;
    }

    int settle() {
      int n = s.bets.size();
      s.bets.clear();
      return n;
    }

    int lots(int n) {
      if (out(n, 1, 60)) return -1;
      if (s.hour + n > 9999) return -3;
      int gone = 0;
      for (int h = 0; h < n; h++) {
        s.draw = (int) ((s.draw * 1103515245L + 12345L) % (1L << 31));
        gone += s.pass((s.draw >> 16) % 4);
      }
      return gone;
    }

    int seed(int v) {
      if (v < 0) return -1;
      int was = s.draw;
      s.draw = v;
      return was;
    }

    int image() {
      kept = s.copy();
      return 1;
    }

    int restore() {
      if (kept == null) return -4;
      s = kept.copy();
      return 1;
    }

    static int lane(Object row) { return row instanceof byte[] ? 0 : row instanceof short[] ? 1 : row instanceof int[] ? 2 : 3; }

    /** 0, or what is refused of n items of a sheet. */
    int look(int sheet, int lane, int from, int n) {
      if (sheets[sheet] == null) return -11;
      if (lane(sheets[sheet]) != lane) return -12;
      int size = Array.getLength(sheets[sheet]);
      return from < 0 || (long) from + n > size ? -13 : 0;
    }

    long get(int sheet, int i) { return Array.getLong(sheets[sheet], i); }

    void put(int sheet, int i, long v) {
      if (sheets[sheet] instanceof byte[] row) row[i] = (byte) v;
      if (sheets[sheet] instanceof short[] row) row[i] = (short) v;
      if (sheets[sheet] instanceof int[] row) row[i] = (int) v;
      if (sheets[sheet] instanceof long[] row) row[i] = v;
    }

    int dress(int sheet, int lane, int from, int n) {
      if (out(sheet, 0, 3) || out(lane, 0, 3) || out(n, 1, s.dials.length)) return -1;
      int refused = look(sheet, lane, from, n);
      if (refused != 0) return refused;
      for (int i = 0; i < n; i++) if (get(sheet, from + i) < 0 || get(sheet, from + i) > 12) return -2;
      for (int i = 0; i < n; i++) s.dials[i] = (int) get(sheet, from + i);
      return n;
    }

    int film(int sheet, int lane, int from) {
      if (out(sheet, 0, 3) || out(lane, 0, 3)) return -1;
      int refused = look(sheet, lane, from, s.clocks.size());
      if (refused != 0) return refused;
      for (int c = 0; c < s.clocks.size(); c++) put(sheet, from + c, s.clocks.get(c).window);
      return s.clocks.size();
    }

    int seen(int sheet, int lane, int from) {
      if (out(sheet, 0, 3) || out(lane, 0, 3)) return -1;
      int refused = look(sheet, lane, from, s.clocks.size());
      if (refused != 0) return refused;
      State then = s.copy();
      for (int h = 0; h <= 200; h++) {
        boolean alike = true;
        for (int c = 0; c < s.clocks.size(); c++) alike &= get(sheet, from + c) == then.clocks.get(c).window;
        if (alike) return h;
        then.pass(then.sky(then.hour));
      }
      return -4;
    }

    int sheet(int sheet, int lane, int n) {
      if (out(sheet, 0, 3) || out(lane, 0, 3) || n > 24) return -1;
      if (n < 0) return -14;
      sheets[sheet] = switch (lane) {
        case 0 -> new byte[n];
        case 1 -> new short[n];
        case 2 -> new int[n];
        default -> new long[n];
      };
      return n;
    }

    int drop(int sheet) {
      if (out(sheet, 0, 3)) return -1;
      if (sheets[sheet] == null) return -11;
      int size = Array.getLength(sheets[sheet]);
      sheets[sheet] = null;
      return size;
    }

    int item(int sheet, int lane, int i, long v) {
      if (out(sheet, 0, 3) || out(lane, 0, 3)) return -1;
      int refused = look(sheet, lane, i, 1);
      if (refused != 0) return refused;
      put(sheet, i, v);
      return 1;
    }

    int copy(int from, int i, int to, int j, int n) {
      if (out(from, 0, 3) || out(to, 0, 3)) return -1;
      if (sheets[from] == null || sheets[to] == null) return -11;
      if (lane(sheets[from]) != lane(sheets[to])) return -12;
      try {
        System.arraycopy(sheets[from], i, sheets[to], j, n);
      } catch (IndexOutOfBoundsException e) {
        return -13;
      }
      return n;
    }
  }

  // ---- random runs

  static final class Run {
    final LameClocks x = new LameClocks();
    final Model m = new Model();
    final Random random;
    final int seed;
    final int style;
    int calls = 0;

    Run(int seed) {
      this.seed = seed;
      random = new Random(seed);
      style = seed % 4;
    }

    int any(int least, int most) {
      int r = random.nextInt(60);
      if (r == 0) return least - 1;
      if (r == 1) return most + 1;
      if (r == 2) return random.nextInt();
      if (r == 3) return random.nextBoolean() ? Integer.MIN_VALUE : Integer.MAX_VALUE;
      if (r < 8) return random.nextBoolean() ? least : most;
      return least + random.nextInt(most - least + 1);
    }

    int clock() { return any(0, Math.max(0, m.s.clocks.size() - 1)); }

    int window() { return any(0, m.s.dials.length - 1); }

    /** Mostly near, as most races are over soon. */
    int span() { return random.nextInt(3) == 0 ? any(0, 200) : any(0, 30); }

    int set() { return any(0, (1 << m.s.clocks.size()) - 1); }

    int size(int sheet) {
      return sheet < 0 || sheet > 3 || m.sheets[sheet] == null ? 5 : Array.getLength(m.sheets[sheet]);
    }

    int lane(int sheet) {
      if (sheet < 0 || sheet > 3 || m.sheets[sheet] == null || random.nextInt(12) == 0) return any(0, 3);
      return Model.lane(m.sheets[sheet]);
    }

    void due(String call, int got, int want) {
      calls++;
      Due.is("run " + seed + " " + call, got, want);
    }

    String pick(String... of) { return of[random.nextInt(of.length)]; }

    String blank() { return random.nextInt(9) == 0 ? " " : ""; }

    String street() {
      StringBuilder s = new StringBuilder();
      int n = 1 + random.nextInt(9);
      for (int i = 0; i < n; i++) {
        if (i > 0) s.append(blank()).append(',').append(blank());
        s.append("pcodtm".charAt(random.nextInt(6))).append(blank()).append(any(0, 719) & 0x3ff);
        if (random.nextBoolean()) s.append(blank()).append(pick("+", "-")).append(random.nextInt(31));
        if (random.nextInt(4) > 0) s.append('*').append(blank()).append(random.nextInt(100));
      }
      return s.toString();
    }

    String course() {
      StringBuilder s = new StringBuilder();
      int n = 2 + random.nextInt(random.nextInt(4) == 0 ? 23 : 9);
      for (int i = 0; i < n; i++) s.append(blank()).append("0123456789ab-----".charAt(random.nextInt(17)));
      return s.toString();
    }

    String skies() {
      StringBuilder s = new StringBuilder();
      int n = 1 + random.nextInt(12);
      for (int i = 0; i < n; i++) s.append(blank()).append("sssrwn".charAt(random.nextInt(6)));
      return s.toString();
    }

    String day() {
      StringBuilder s = new StringBuilder();
      int n = 1 + random.nextInt(9);
      for (int i = 0; i < n; i++) {
        if (i > 0) s.append(blank()).append(';').append(blank());
        int clock = random.nextInt(Math.max(1, Math.min(10, m.s.clocks.size() + 1)));
        switch (random.nextInt(5)) {
          case 0 -> s.append('w').append(blank()).append(clock).append('+').append(1 + random.nextInt(99));
          case 1 -> s.append('t').append(clock).append(blank()).append('+').append(1 + random.nextInt(719));
          case 2 -> s.append('b').append(blank()).append(random.nextInt(m.s.dials.length));
          default -> s.append('h');
        }
      }
      return s.toString();
    }

    /** Some texts are broken, so that faults are told as well. */
    String broken(String s) {
      if (random.nextInt(3) > 0) return s;
      StringBuilder t = new StringBuilder(s);
      int at = random.nextInt(t.length());
      String letters = "0123456789 ab-+*,;pcodtmwhsrn~";
      char letter = letters.charAt(random.nextInt(letters.length()));
      switch (random.nextInt(4)) {
        case 0 -> t.setCharAt(at, letter);
        case 1 -> t.insert(at, letter);
        case 2 -> t.deleteCharAt(at);
        default -> t.setLength(at);
      }
      return t.toString();
    }

    void text() {
      int which = random.nextInt(5);
      String s = broken(which == 0 ? street() : which == 1 ? course() : which == 2 ? skies() : day());
      for (int i = 0; i < s.length(); i++) due("type " + s.charAt(i), x.type(s.charAt(i)), m.type(s.charAt(i)));
      if (random.nextInt(30) == 0) which = random.nextInt(4);
      switch (which) {
        case 0 -> due("street", x.street(), m.street());
        case 1 -> due("course", x.course(), m.course());
        case 2 -> due("skies", x.skies(), m.skies());
        default -> due("day", x.day(), m.day());
      }
    }

    /** An object is good for 512 calls; the longest act is a text of some 150 letters. */
    void play() {
      for (int i = 0; i < 512 && calls < 350; i++) {
        int part = random.nextInt(20);
        if (part < 4) change();
        else if (part < 6) text();
        else if (part < 10) ask();
        else if (part < 14) comes();
        else if (part < 16) bets();
        else sheets();
      }
    }

    void change() {
      int c = clock();
      int w = window();
      switch (random.nextInt(style == 0 ? 14 : 10)) {
        case 0 -> {
          int kind = any(0, 5), hands = any(0, 719), rate = any(-30, 30), spring = any(0, 99);
          due("clock " + kind + " " + hands + " " + rate + " " + spring, x.clock(kind, hands, rate, spring), m.clock(kind, hands, rate, spring));
        }
        case 1 -> {
          if (random.nextInt(3) == 0) due("strike", x.strike(), m.strike());
        }
        case 2 -> {
          int v = any(0, 12);
          due("paint " + w + " " + v, x.paint(w, v), m.paint(w, v));
        }
        case 3, 4 -> due("hour", x.hour(), m.hour());
        case 5 -> {
          int n = any(1, 99);
          due("wind " + c + " " + n, x.wind(c, n), m.wind(c, n));
        }
        case 6 -> {
          int n = any(1, 719);
          due("turn " + c + " " + n, x.turn(c, n), m.turn(c, n));
        }
        case 7 -> {
          int v = any(-30, 30);
          due("tune " + c + " " + v, x.tune(c, v), m.tune(c, v));
        }
        case 8 -> due("breathe " + w, x.breathe(w), m.breathe(w));
        case 9 -> {
          if (random.nextInt(4) == 0) due("restart", x.restart(), m.restart());
          else due("undo", x.undo(), m.undo());
        }
        default -> due("hour", x.hour(), m.hour());
      }
    }

    void ask() {
      int c = clock();
      int what = any(0, 7);
      switch (random.nextInt(7)) {
        case 0 -> due("told " + c + " " + what, x.told(c, what), m.told(c, what));
        case 1 -> due("rate " + c, x.rate(c), m.rate(c));
        case 2 -> {
          int w = window();
          due("dial " + w, x.dial(w), m.dial(w));
        }
        case 3 -> {
          int h = any(0, 9999);
          due("weather " + h, x.weather(h), m.weather(h));
        }
        case 4 -> due("count " + what, x.count(what), m.count(what));
        case 5 -> due("heard", x.heard(), m.heard());
        default -> due("place " + c, x.place(c), m.place(c));
      }
    }

    void comes() {
      int c = clock();
      int n = span();
      int what = any(0, 1);
      int p = random.nextInt(3) > 0 ? any(1, Math.max(1, m.s.clocks.size() / 2)) : any(1, 9);
      String of = " " + c + " " + p + " " + n + " " + what;
      switch (random.nextInt(15)) {
        case 0, 1 -> due("behind" + of, x.behind(c, n, what), m.behind(c, n, what));
        case 2 -> due("leads" + of, x.leads(n), m.leads(n));
        case 3 -> due("finish" + of, x.finish(c), m.finish(c));
        case 4 -> due("over" + of, x.over(), m.over());
        case 5, 6 -> due("turns" + of, x.turns(c, p, n), m.turns(c, p, n));
        case 7 -> due("hands" + of, x.hands(c, p, n), m.hands(c, p, n));
        case 8, 9 -> {
          due("both" + of, x.both(c, p, n, 0), m.both(c, p, n, 0));
          due("both" + of, x.both(c, p, n, what), m.both(c, p, n, what));
        }
        case 10 -> {
          int b = clock();
          due("duel " + b + of, x.duel(c, b, n, what), m.duel(c, b, n, what));
        }
        case 11 -> due("breath" + of, x.breath(c, n), m.breath(c, n));
        case 12 -> due("right" + of, x.right(c, n), m.right(c, n));
        case 13 -> due("appeal" + of, x.appeal(c, n), m.appeal(c, n));
        default -> due("spans" + of, x.spans(c, what), m.spans(c, what));
      }
    }

    void bets() {
      int c = clock();
      int set = set();
      switch (random.nextInt(9)) {
        case 0, 1 -> {
          int strokes = random.nextBoolean() ? any(1, 30) : any(1, 108), what = any(0, 2);
          due("struck " + set + " " + strokes + " " + what, x.struck(set, strokes, what), m.struck(set, strokes, what));
        }
        case 2 -> {
          int stake = any(1, 999);
          due("bet " + c + " " + stake, x.bet(c, stake), m.bet(c, stake));
        }
        case 3, 4 -> {
          int bet = any(0, Math.max(0, m.s.bets.size() - 1));
          due("pays " + bet + " " + set, x.pays(bet, set), m.pays(bet, set));
        }
        case 5 -> {
          if (random.nextInt(3) == 0) due("settle", x.settle(), m.settle());
        }
        case 6 -> {
          int n = style == 1 ? any(1, 60) : any(1, 4);
          due("lots " + n, x.lots(n), m.lots(n));
        }
        case 7 -> {
          int v = random.nextInt();
          due("seed " + v, x.seed(v), m.seed(v));
        }
        default -> {
          if (random.nextBoolean()) due("image", x.image(), m.image());
          else if (random.nextInt(3) == 0) due("restore", x.restore(), m.restore());
        }
      }
    }

    void sheets() {
      int s = any(0, 3), l = lane(s), size = size(s);
      int from = any(0, Math.max(0, random.nextBoolean() ? size - 1 : size - m.s.clocks.size()));
      switch (random.nextInt(12)) {
        case 0, 1 -> {
          int lane = any(0, 3), n = any(0, 24);
          due("sheet " + s + " " + lane + " " + n, x.sheet(s, lane, n), m.sheet(s, lane, n));
        }
        case 2 -> {
          if (random.nextInt(4) == 0) due("drop " + s, x.drop(s), m.drop(s));
        }
        case 3, 4, 5, 6 -> {
          long v = random.nextInt(5) == 0 ? random.nextLong() : any(0, 12) + 256L * random.nextInt(2);
          due("item " + s + " " + l + " " + from + " " + v, x.item(s, l, from, v), m.item(s, l, from, v));
        }
        case 7 -> {
          int n = any(1, Math.max(1, Math.min(m.s.dials.length, Math.max(1, size - from))));
          due("dress " + s + " " + l + " " + from + " " + n, x.dress(s, l, from, n), m.dress(s, l, from, n));
        }
        case 8 -> due("film " + s + " " + l + " " + from, x.film(s, l, from), m.film(s, l, from));
        case 9 -> {
          film(s, l, from);
          due("seen " + s + " " + l + " " + from, x.seen(s, l, from), m.seen(s, l, from));
        }
        default -> {
          int to = any(0, 3), j = any(0, Math.max(0, size(to) - 1)), n = any(0, Math.max(0, size - from));
          due("copy " + s + " " + from + " " + to + " " + j + " " + n, x.copy(s, from, to, j, n), m.copy(s, from, to, j, n));
        }
      }
    }

    /** Writes a row that comes true later, so that seen() finds something. */
    void film(int s, int l, int from) {
      if (random.nextInt(3) == 0 || m.s.clocks.isEmpty()) return;
      State then = m.s.after(random.nextInt(30), -1);
      for (int c = 0; c < then.clocks.size() && from >= 0 && from < 24; c++) {
        int v = then.clocks.get(c).window - (random.nextInt(40) == 0 ? 1 : 0);
        due("item " + s + " " + l + " " + (from + c) + " " + v, x.item(s, l, from + c, v), m.item(s, l, from + c, v));
      }
    }
  }
}
