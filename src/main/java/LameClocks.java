/** The lame clock race: clocks that go on along a course of shop windows only by what they strike. */
public final class LameClocks {
    public static final int BAD = -1, NOT = -2, FULL = -3, NONE = -4, NULL = -11, CAST = -12, INDEX = -13, SIZE = -14;

    private static final int PLAIN = 0, CUCKOO = 1, STOPPED = 2, SUNDIAL = 3, TWIN = 4, MAYOR = 5;
    private static final int SUN = 0, RAIN = 1, SNOW = 2, NIGHT = 3, BY_SKY = -1;
    private static final int WIND = 0, TURN = 1, TUNE = 2, BREATHE = 3, PASS = 4;
    private static final int LESS = 1000;

    private static final int MOST_WINDOWS = 24, LEAST_WINDOWS = 2, FIRST_WINDOWS = 8, NO_DIAL = 12;
    private static final int MOST_CLOCKS = 9, MOST_RATE = 30, MOST_SPRING = 99, DIAL_MINUTES = 720, HOUR_MINUTES = 60;
    private static final int DIAL_HOURS = 12, MAYOR_HOURS = 6, LEAST_SKIES = 1, MOST_SKIES = 12, LAST_HOUR = 9999, FAR = 200;
    private static final int MOST_TURNS = 40, MOST_STROKES = 108, MOST_LOTS = 60;
    private static final int MOST_BETS = 6, MOST_STAKE = 999, MOST_REPAIRS = 10;
    private static final int TAPE_LETTERS = 160, MOST_ACTS = 80, FIRST_FAULT = -20, END = -1, HUGE = 100000;
    private static final int SHEETS = 4, LANES = 4, MOST_ITEMS = 24;

    private final Whole now = new Whole();
    private final Whole kept = new Whole();
    private boolean hasImage = false;
    /** What would be: every question about what comes is played here, so that nothing real changes. */
    private final Race trial = new Race();
    private final Tape tape = new Tape();
    private final Day plan = new Day();
    private final int[] gains = new int[DIAL_HOURS * DIAL_HOURS];
    private final Sheet[] sheets = new Sheet[SHEETS];

    public LameClocks() {
        for (int s = 0; s < SHEETS; s++) sheets[s] = new Sheet();
    }

    // ---- 1 windows, clocks

    public int clock(int kind, int hands, int rate, int spring) {
        if (!isIn(kind, PLAIN, MAYOR) || !isIn(hands, 0, DIAL_MINUTES - 1)) return BAD;
        if (!isRate(rate) || !isIn(spring, 0, MOST_SPRING)) return BAD;
        if (now.race.clocks >= MOST_CLOCKS) return FULL;
        return now.race.add(kind, hands, rate, spring);
    }

    public int strike() {
        if (now.race.clocks == 0) return NONE;
        now.race.removeLast();
        now.bets.removeOn(now.race.clocks);
        now.repairs.known = 0;
        return now.race.clocks;
    }

    public int told(int clock, int what) {
        if (!isClock(clock)) return BAD;
        Race race = now.race;
        switch (what) {
            case 0: return race.kind[clock];
            case 1: return race.hands[clock];
            case 2: return race.spring[clock];
            case 3: return race.window[clock];
            case 4: return race.isHome(clock) ? race.finish[clock] : NONE;
            case 5: return race.shownBy(clock);
            case 6: return race.struckBy(clock);
            default: return BAD;
        }
    }

    public int rate(int clock) {
        return isClock(clock) ? now.race.rate[clock] : BAD - LESS;
    }

    public int dial(int window) {
        return isWindow(window) ? now.race.dials[window] : BAD;
    }

    public int paint(int window, int v) {
        if (!isWindow(window) || !isIn(v, 0, NO_DIAL)) return BAD;
        int was = now.race.dials[window];
        now.race.dials[window] = v;
        return was;
    }

    public int weather(int hour) {
        return isIn(hour, 0, LAST_HOUR) ? now.race.weatherAt(hour) : BAD;
    }

    public int type(int letter) {
        if (!isIn(letter, 32, 126)) return BAD;
        if (tape.size >= TAPE_LETTERS) return FULL;
        tape.letters[tape.size] = (char) letter;
        tape.size++;
        return tape.size;
    }

    public int course() {
        trial.become(now.race);
        int answer = tape.readSigns("0123456789ab-", LEAST_WINDOWS, MOST_WINDOWS, trial.dials);
        tape.size = 0;
        if (answer < 0) return answer;
        trial.windows = answer;
        trial.toStart();
        now.race.become(trial);
        now.repairs.known = 0;
        return answer;
    }

    public int skies() {
        trial.become(now.race);
        int answer = tape.readSigns("srwn", LEAST_SKIES, MOST_SKIES, trial.sky);
        tape.size = 0;
        if (answer < 0) return answer;
        trial.skies = answer;
        now.race.become(trial);
        return answer;
    }

    public int street() {
        trial.become(now.race);
        trial.clocks = 0;
        trial.hush();
        int answer = tape.readStreet(trial);
        tape.size = 0;
        if (answer < 0) return answer;
        now.race.become(trial);
        now.bets.size = 0;
        now.repairs.known = 0;
        return answer;
    }

    public int day() {
        int answer = tape.readDay(plan);
        tape.size = 0;
        if (answer < 0) return answer;
        for (int i = 0; i < plan.size; i++) {
            if (perform(plan.act[i], plan.whom[i], plan.amount[i]) < 0) return i;
        }
        return plan.size;
    }

    public int count(int what) {
        switch (what) {
            case 0: return now.race.windows;
            case 1: return now.race.clocks;
            case 2: return now.race.hour;
            case 3: return now.race.homeCount();
            case 4: return now.race.strokes;
            case 5: return now.bets.size;
            case 6: return now.repairs.known;
            case 7: return now.race.tiedPairs();
            default: return BAD;
        }
    }

    public int heard() {
        return now.race.heard;
    }

    public int place(int clock) {
        return isClock(clock) ? now.race.placeOf(clock) : BAD;
    }

    // ---- 2 hours, repairs

    public int hour() {
        if (now.race.hour >= LAST_HOUR) return FULL;
        return now.race.pass(BY_SKY);
    }

    public int wind(int clock, int n) {
        if (!isClock(clock) || !isIn(n, 1, MOST_SPRING)) return BAD;
        now.repairs.note(WIND, clock, now.race.spring[clock]);
        now.race.windOn(clock, n);
        return now.race.spring[clock];
    }

    public int turn(int clock, int n) {
        if (!isClock(clock) || !isIn(n, 1, DIAL_MINUTES - 1)) return BAD;
        now.repairs.note(TURN, clock, now.race.hands[clock]);
        now.race.turnOn(clock, n);
        return now.race.hands[clock];
    }

    public int tune(int clock, int v) {
        if (!isClock(clock) || !isRate(v)) return BAD - LESS;
        int was = now.race.rate[clock];
        now.repairs.note(TUNE, clock, was);
        now.race.rate[clock] = v;
        return was;
    }

    public int breathe(int window) {
        if (!isWindow(window)) return BAD;
        int was = now.race.dials[window];
        if (was == NO_DIAL) return NOT;
        now.repairs.note(BREATHE, window, was);
        now.race.dials[window] = NO_DIAL;
        return was;
    }

    public int undo() {
        if (now.repairs.known == 0) return NONE;
        now.repairs.takeBack(now.race);
        return now.repairs.known;
    }

    public int restart() {
        int wereHome = now.race.homeCount();
        now.race.toStart();
        now.race.hush();
        now.race.hour = 0;
        now.repairs.known = 0;
        return wereHome;
    }

    // ---- what comes

    public int behind(int clock, int n, int what) {
        if (!isClock(clock) || !isSpan(n) || !isIn(what, 0, 1)) return BAD;
        foresee(n, BY_SKY);
        return what == 0 ? trial.window[clock] : trial.placeOf(clock);
    }

    public int leads(int n) {
        if (!isSpan(n)) return BAD;
        foresee(n, BY_SKY);
        return trial.leaders();
    }

    public int finish(int clock) {
        if (!isClock(clock)) return BAD;
        int hours = hoursUntilHome(clock, BY_SKY);
        return hours > FAR ? NONE : trial.finish[clock];
    }

    public int over() {
        trial.become(now.race);
        for (int h = 0; h <= FAR; h++) {
            if (trial.allHome()) return h;
            trial.pass(BY_SKY);
        }
        return NONE;
    }

    public int turns(int clock, int p, int n) {
        if (!isAim(clock, p, n)) return BAD;
        int most = usefulTurns(clock, n);
        for (int more = 0; more <= most; more++) {
            if (comesTo(clock, p, n, more, 0)) return more;
        }
        return NONE;
    }

    public int hands(int clock, int p, int n) {
        if (!isAim(clock, p, n)) return BAD;
        for (int hours = 0; hours < DIAL_HOURS; hours++) {
            if (comesTo(clock, p, n, 0, hours)) return hours;
        }
        return NONE;
    }

    public int both(int clock, int p, int n, int what) {
        if (!isAim(clock, p, n) || !isIn(what, 0, 1)) return BAD;
        int most = usefulTurns(clock, n);
        for (int sum = 0; sum <= most + DIAL_HOURS - 1; sum++) {
            int mostHours = Math.min(sum, DIAL_HOURS - 1);
            for (int hours = Math.max(0, sum - most); hours <= mostHours; hours++) {
                if (comesTo(clock, p, n, sum - hours, hours)) return what == 0 ? sum : hours;
            }
        }
        return NONE;
    }

    public int duel(int a, int b, int n, int what) {
        if (!isClock(a) || !isClock(b) || a == b || !isSpan(n) || !isIn(what, 0, 1)) return BAD;
        fillGains(a, b, n);
        int rests = 0;
        for (int i = 0; i < DIAL_HOURS; i++) {
            for (int j = 0; j < DIAL_HOURS; j++) {
                if (!isRest(i, j)) continue;
                if (what == 1) return 100 * i + j;
                rests++;
            }
        }
        return what == 0 ? rests : NONE;
    }

    public int breath(int clock, int n) {
        if (!isClock(clock) || !isSpan(n)) return BAD;
        foresee(n, BY_SKY);
        int farthest = trial.window[clock];
        int best = NONE;
        for (int w = 0; w < now.race.windows; w++) {
            trial.become(now.race);
            trial.dials[w] = NO_DIAL;
            trial.passMany(n, BY_SKY);
            if (trial.window[clock] > farthest) {
                farthest = trial.window[clock];
                best = w;
            }
        }
        return best;
    }

    public int right(int clock, int n) {
        if (!isClock(clock) || !isSpan(n)) return BAD;
        trial.become(now.race);
        int times = 0;
        for (int h = 0; h < n; h++) {
            if (trial.struckBy(clock) == trial.trueMinutes() / HOUR_MINUTES) times++;
            trial.pass(BY_SKY);
        }
        return times;
    }

    public int appeal(int clock, int n) {
        if (!isClock(clock) || !isSpan(n)) return BAD;
        foresee(n, SUN);
        return trial.placeOf(clock);
    }

    public int spans(int clock, int what) {
        if (!isClock(clock) || !isIn(what, 0, 1)) return BAD;
        int least = FAR + 1;
        int most = 0;
        for (int weather = SUN; weather <= NIGHT; weather++) {
            int hours = hoursUntilHome(clock, weather);
            least = Math.min(least, hours);
            most = Math.max(most, hours);
        }
        return what == 0 ? least : most;
    }

    // ---- 3 who struck, bets, lots

    public int struck(int set, int strokes, int what) {
        if (!isSet(set) || !isIn(strokes, 1, MOST_STROKES) || !isIn(what, 0, 2)) return BAD;
        int found = 0;
        int sure = set;
        for (int some = 1; some <= set; some++) {
            if ((some & ~set) != 0 || now.race.strokesOfSet(some) != strokes) continue;
            if (what == 1) return some;
            found++;
            sure &= some;
        }
        if (what == 0) return found;
        return found == 0 ? NONE : sure;
    }

    public int bet(int clock, int stake) {
        if (!isClock(clock) || !isIn(stake, 1, MOST_STAKE)) return BAD;
        if (now.bets.size >= MOST_BETS) return FULL;
        return now.bets.add(clock, stake);
    }

    public int pays(int bet, int set) {
        if (!isIn(bet, 0, now.bets.size - 1) || !isSet(set)) return BAD;
        return now.bets.share(bet, set);
    }

    public int settle() {
        int were = now.bets.size;
        now.bets.size = 0;
        return were;
    }

    public int lots(int n) {
        if (!isIn(n, 1, MOST_LOTS)) return BAD;
        if (now.race.hour + n > LAST_HOUR) return FULL;
        int gone = 0;
        for (int h = 0; h < n; h++) gone += now.race.pass(now.drawWeather());
        return gone;
    }

    public int seed(int v) {
        if (v < 0) return BAD;
        int was = now.draw;
        now.draw = v;
        return was;
    }

    public int image() {
        kept.become(now);
        hasImage = true;
        return 1;
    }

    public int restore() {
        if (!hasImage) return NONE;
        now.become(kept);
        return 1;
    }

    // ---- 4 sheets

    public int dress(int sheet, int lane, int from, int n) {
        if (!isSheet(sheet) || !isLane(lane) || !isIn(n, 1, now.race.windows)) return BAD;
        Sheet row = sheets[sheet];
        int refusal = row.refusal(lane, from, n);
        if (refusal != 0) return refusal;
        for (int i = 0; i < n; i++) {
            long v = row.items[from + i];
            if (v < 0 || v > NO_DIAL) return NOT;
        }
        for (int i = 0; i < n; i++) now.race.dials[i] = (int) row.items[from + i];
        return n;
    }

    public int film(int sheet, int lane, int from) {
        if (!isSheet(sheet) || !isLane(lane)) return BAD;
        Sheet row = sheets[sheet];
        int n = now.race.clocks;
        int refusal = row.refusal(lane, from, n);
        if (refusal != 0) return refusal;
        for (int c = 0; c < n; c++) row.put(from + c, now.race.window[c]);
        return n;
    }

    public int seen(int sheet, int lane, int from) {
        if (!isSheet(sheet) || !isLane(lane)) return BAD;
        Sheet row = sheets[sheet];
        int refusal = row.refusal(lane, from, now.race.clocks);
        if (refusal != 0) return refusal;
        trial.become(now.race);
        for (int h = 0; h <= FAR; h++) {
            if (isFilmed(row, from)) return h;
            trial.pass(BY_SKY);
        }
        return NONE;
    }

    public int sheet(int sheet, int lane, int n) {
        if (!isSheet(sheet) || !isLane(lane) || n > MOST_ITEMS) return BAD;
        if (n < 0) return SIZE;
        sheets[sheet].renew(lane, n);
        return n;
    }

    public int drop(int sheet) {
        if (!isSheet(sheet)) return BAD;
        if (!sheets[sheet].isThere) return NULL;
        sheets[sheet].isThere = false;
        return sheets[sheet].size;
    }

    public int item(int sheet, int lane, int i, long v) {
        if (!isSheet(sheet) || !isLane(lane)) return BAD;
        int refusal = sheets[sheet].refusal(lane, i, 1);
        if (refusal != 0) return refusal;
        sheets[sheet].put(i, v);
        return 1;
    }

    public int copy(int from, int i, int to, int j, int n) {
        if (!isSheet(from) || !isSheet(to)) return BAD;
        Sheet source = sheets[from];
        Sheet target = sheets[to];
        if (!source.isThere || !target.isThere) return NULL;
        if (source.lane != target.lane) return CAST;
        if (!source.holds(i, n) || !target.holds(j, n)) return INDEX;
        System.arraycopy(source.items, i, target.items, j, n);
        return n;
    }

    // ---- what a number may be

    private static boolean isIn(int v, int least, int most) {
        return v >= least && v <= most;
    }

    private static boolean isRate(int v) {
        return isIn(v, -MOST_RATE, MOST_RATE);
    }

    private static boolean isSpan(int n) {
        return isIn(n, 0, FAR);
    }

    private static boolean isSheet(int sheet) {
        return isIn(sheet, 0, SHEETS - 1);
    }

    private static boolean isLane(int lane) {
        return isIn(lane, 0, LANES - 1);
    }

    private boolean isClock(int clock) {
        return isIn(clock, 0, now.race.clocks - 1);
    }

    private boolean isWindow(int window) {
        return isIn(window, 0, now.race.windows - 1);
    }

    private boolean isSet(int set) {
        return isIn(set, 0, (1 << now.race.clocks) - 1);
    }

    private boolean isAim(int clock, int p, int n) {
        return isClock(clock) && isIn(p, 1, MOST_CLOCKS) && isSpan(n);
    }

    // ---- acts and foresight

    private int perform(int act, int whom, int amount) {
        switch (act) {
            case WIND: return wind(whom, amount);
            case TURN: return turn(whom, amount);
            case BREATHE: return breathe(whom);
            default: return hour();
        }
    }

    private void foresee(int n, int weather) {
        trial.become(now.race);
        trial.passMany(n, weather);
    }

    /** The fewest hours behind which the clock is home, with the trial left there; FAR + 1 if it never is. */
    private int hoursUntilHome(int clock, int weather) {
        trial.become(now.race);
        for (int h = 0; h <= FAR; h++) {
            if (trial.isHome(clock)) return h;
            trial.pass(weather);
        }
        return FAR + 1;
    }

    /** A spring that outlasts n hours, or is full, changes nothing by more turns: these need no trial. */
    private int usefulTurns(int clock, int n) {
        int wanted = Math.min(n, MOST_SPRING) - now.race.spring[clock];
        return Math.max(0, Math.min(wanted, MOST_TURNS));
    }

    private boolean comesTo(int clock, int p, int n, int more, int hours) {
        trial.become(now.race);
        trial.windOn(clock, more);
        trial.turnOn(clock, hours * HOUR_MINUTES);
        trial.passMany(n, BY_SKY);
        return trial.placeOf(clock) <= p;
    }

    private void fillGains(int a, int b, int n) {
        for (int i = 0; i < DIAL_HOURS; i++) {
            for (int j = 0; j < DIAL_HOURS; j++) {
                trial.become(now.race);
                trial.turnOn(a, i * HOUR_MINUTES);
                trial.turnOn(b, j * HOUR_MINUTES);
                trial.passMany(n, BY_SKY);
                gains[i * DIAL_HOURS + j] = trial.window[a] - trial.window[b];
            }
        }
    }

    private boolean isRest(int i, int j) {
        int gain = gains[i * DIAL_HOURS + j];
        for (int k = 0; k < DIAL_HOURS; k++) {
            if (gains[k * DIAL_HOURS + j] > gain) return false;
            if (gains[i * DIAL_HOURS + k] < gain) return false;
        }
        return true;
    }

    private boolean isFilmed(Sheet row, int from) {
        for (int c = 0; c < trial.clocks; c++) {
            if (row.items[from + c] != trial.window[c]) return false;
        }
        return true;
    }

    /** All that an image keeps. */
    private static final class Whole {
        final Race race = new Race();
        final Bets bets = new Bets();
        final Repairs repairs = new Repairs();
        int draw = 1;

        void become(Whole other) {
            race.become(other.race);
            bets.become(other.bets);
            repairs.become(other.repairs);
            draw = other.draw;
        }

        int drawWeather() {
            draw = (draw * 1103515245 + 12345) & 0x7fffffff;
            return draw / 65536 % 4;
        }
    }

    /** Windows, clocks, the sky's row and the hour: what an hour reads and changes. */
    private static final class Race {
        int windows = FIRST_WINDOWS;
        final int[] dials = new int[MOST_WINDOWS];
        int clocks = 0;
        final int[] kind = new int[MOST_CLOCKS];
        final int[] hands = new int[MOST_CLOCKS];
        final int[] rate = new int[MOST_CLOCKS];
        final int[] spring = new int[MOST_CLOCKS];
        final int[] window = new int[MOST_CLOCKS];
        final int[] finish = new int[MOST_CLOCKS];
        int skies = 1;
        final int[] sky = new int[MOST_SKIES];
        int hour = 0;
        int heard = 0;
        int strokes = 0;

        Race() {
            for (int w = 0; w < MOST_WINDOWS; w++) dials[w] = NO_DIAL;
        }

        void become(Race other) {
            windows = other.windows;
            System.arraycopy(other.dials, 0, dials, 0, windows);
            clocks = other.clocks;
            System.arraycopy(other.kind, 0, kind, 0, clocks);
            System.arraycopy(other.hands, 0, hands, 0, clocks);
            System.arraycopy(other.rate, 0, rate, 0, clocks);
            System.arraycopy(other.spring, 0, spring, 0, clocks);
            System.arraycopy(other.window, 0, window, 0, clocks);
            System.arraycopy(other.finish, 0, finish, 0, clocks);
            skies = other.skies;
            System.arraycopy(other.sky, 0, sky, 0, skies);
            hour = other.hour;
            heard = other.heard;
            strokes = other.strokes;
        }

        int add(int ofKind, int atHands, int atRate, int ofSpring) {
            int c = clocks;
            kind[c] = ofKind;
            hands[c] = atHands;
            rate[c] = atRate;
            spring[c] = ofSpring;
            window[c] = 0;
            finish[c] = 0;
            clocks++;
            return c;
        }

        void removeLast() {
            clocks--;
            heard &= ~(1 << clocks);
        }

        void toStart() {
            for (int c = 0; c < clocks; c++) {
                window[c] = 0;
                finish[c] = 0;
            }
        }

        void hush() {
            heard = 0;
            strokes = 0;
        }

        int weatherAt(int anHour) {
            return skies > 0 ? sky[anHour % skies] : SUN;
        }

        int trueMinutes() {
            return HOUR_MINUTES * hour % DIAL_MINUTES;
        }

        int shownBy(int clock) {
            int c = clock;
            while (c > 0 && kind[c] == TWIN) c--;
            return kind[c] == SUNDIAL ? trueMinutes() : hands[c];
        }

        int struckBy(int clock) {
            return shownBy(clock) / HOUR_MINUTES;
        }

        private static int strokesFor(int struck) {
            return struck == 0 ? DIAL_HOURS : struck;
        }

        int strokesOfSet(int set) {
            int sum = 0;
            for (int c = 0; c < clocks; c++) {
                if ((set >> c & 1) == 1) sum += strokesFor(struckBy(c));
            }
            return sum;
        }

        boolean isHome(int clock) {
            return window[clock] == windows - 1;
        }

        int homeCount() {
            int home = 0;
            for (int c = 0; c < clocks; c++) {
                if (isHome(c)) home++;
            }
            return home;
        }

        boolean allHome() {
            return homeCount() == clocks;
        }

        void windOn(int clock, int n) {
            spring[clock] = Math.min(MOST_SPRING, spring[clock] + n);
        }

        void turnOn(int clock, int minutes) {
            hands[clock] = (hands[clock] + minutes) % DIAL_MINUTES;
        }

        /** One hour in this weather (or the row's, BY_SKY): how many go. */
        int pass(int inWeather) {
            int weather = inWeather == BY_SKY ? weatherAt(hour) : inWeather;
            hush();
            int gone = 0;
            for (int c = 0; c < clocks; c++) {
                if (isHome(c)) continue;
                int struck = struckBy(c);
                if (!mayGo(c, struck, weather)) continue;
                go(c, struck, weather);
                gone++;
            }
            for (int c = 0; c < clocks; c++) run(c);
            hour++;
            return gone;
        }

        /** Once all are home neither windows nor places change, so the rest of the hours is left out. */
        void passMany(int n, int weather) {
            for (int h = 0; h < n && !allHome(); h++) pass(weather);
        }

        /** Only of a clock that is not home: it has a next window. */
        private boolean mayGo(int clock, int struck, int weather) {
            if (kind[clock] == MAYOR && hour % MAYOR_HOURS == 0) return true;
            if (kind[clock] == SUNDIAL && weather != SUN) return false;
            int next = dials[window[clock] + 1];
            return next == NO_DIAL || next == struck;
        }

        private void go(int clock, int struck, int weather) {
            int steps = kind[clock] == CUCKOO && weather == RAIN ? 2 : 1;
            dials[window[clock]] = struck;
            window[clock] = Math.min(window[clock] + steps, windows - 1);
            if (isHome(clock)) finish[clock] = hour + 1;
            if (weather == SNOW) return;
            heard |= 1 << clock;
            strokes += strokesFor(struck);
        }

        /** The rate never outweighs the hour, so hands only ever go on. */
        private void run(int clock) {
            if (kind[clock] == STOPPED || kind[clock] == SUNDIAL || spring[clock] == 0) return;
            turnOn(clock, HOUR_MINUTES + rate[clock]);
            spring[clock]--;
        }

        private boolean isAhead(int a, int b) {
            if (isHome(a) && isHome(b)) return finish[a] < finish[b];
            return window[a] > window[b];
        }

        int placeOf(int clock) {
            int place = 1;
            for (int c = 0; c < clocks; c++) {
                if (isAhead(c, clock)) place++;
            }
            return place;
        }

        int leaders() {
            int set = 0;
            for (int c = 0; c < clocks; c++) {
                if (placeOf(c) == 1) set |= 1 << c;
            }
            return set;
        }

        int tiedPairs() {
            int pairs = 0;
            for (int a = 0; a < clocks; a++) {
                for (int b = 0; b < a; b++) {
                    if (!isAhead(a, b) && !isAhead(b, a)) pairs++;
                }
            }
            return pairs;
        }
    }

    /** Bets in the order in which they came. */
    private static final class Bets {
        int size = 0;
        final int[] on = new int[MOST_BETS];
        final int[] stake = new int[MOST_BETS];

        void become(Bets other) {
            size = other.size;
            System.arraycopy(other.on, 0, on, 0, size);
            System.arraycopy(other.stake, 0, stake, 0, size);
        }

        int add(int clock, int ofStake) {
            int b = size;
            on[b] = clock;
            stake[b] = ofStake;
            size++;
            return b;
        }

        void removeOn(int clock) {
            int left = 0;
            for (int b = 0; b < size; b++) {
                if (on[b] == clock) continue;
                on[left] = on[b];
                stake[left] = stake[b];
                left++;
            }
            size = left;
        }

        private boolean wins(int bet, int set) {
            return (set >> on[bet] & 1) == 1;
        }

        int share(int bet, int set) {
            int all = 0;
            int onWinners = 0;
            for (int b = 0; b < size; b++) {
                all += stake[b];
                if (wins(b, set)) onWinners += stake[b];
            }
            if (onWinners == 0) return stake[bet];
            return wins(bet, set) ? all * stake[bet] / onWinners : 0;
        }
    }

    /** What the latest repairs replaced, the oldest first. */
    private static final class Repairs {
        int known = 0;
        final int[] act = new int[MOST_REPAIRS];
        final int[] whom = new int[MOST_REPAIRS];
        final int[] was = new int[MOST_REPAIRS];

        void become(Repairs other) {
            known = other.known;
            System.arraycopy(other.act, 0, act, 0, known);
            System.arraycopy(other.whom, 0, whom, 0, known);
            System.arraycopy(other.was, 0, was, 0, known);
        }

        void note(int ofAct, int ofWhom, int ofWas) {
            if (known == MOST_REPAIRS) forgetOldest();
            act[known] = ofAct;
            whom[known] = ofWhom;
            was[known] = ofWas;
            known++;
        }

        private void forgetOldest() {
            known--;
            System.arraycopy(act, 1, act, 0, known);
            System.arraycopy(whom, 1, whom, 0, known);
            System.arraycopy(was, 1, was, 0, known);
        }

        void takeBack(Race race) {
            known--;
            int of = whom[known];
            switch (act[known]) {
                case WIND: race.spring[of] = was[known]; break;
                case TURN: race.hands[of] = was[known]; break;
                case TUNE: race.rate[of] = was[known]; break;
                default: race.dials[of] = was[known]; break;
            }
        }
    }

    /** The acts of a day, read whole before the first is done. */
    private static final class Day {
        int size = 0;
        final int[] act = new int[MOST_ACTS];
        final int[] whom = new int[MOST_ACTS];
        final int[] amount = new int[MOST_ACTS];

        void add(int ofAct, int ofWhom, int ofAmount) {
            act[size] = ofAct;
            whom[size] = ofWhom;
            amount[size] = ofAmount;
            size++;
        }
    }

    /** A row of items that may be missing; items are held as their lane cuts them. */
    private static final class Sheet {
        boolean isThere = false;
        int lane = 0;
        int size = 0;
        final long[] items = new long[MOST_ITEMS];

        void renew(int ofLane, int n) {
            isThere = true;
            lane = ofLane;
            size = n;
            for (int i = 0; i < n; i++) items[i] = 0;
        }

        boolean holds(int from, int n) {
            return from >= 0 && n >= 0 && from <= size - n;
        }

        int refusal(int asLane, int from, int n) {
            if (!isThere) return NULL;
            if (lane != asLane) return CAST;
            return holds(from, n) ? 0 : INDEX;
        }

        void put(int i, long v) {
            switch (lane) {
                case 0: items[i] = (byte) v; break;
                case 1: items[i] = (short) v; break;
                case 2: items[i] = (int) v; break;
                default: items[i] = v; break;
            }
        }
    }

    /** Typed letters, and a head that reads them; the readers answer a count or a fault. */
    private static final class Tape {
        final char[] letters = new char[TAPE_LETTERS];
        int size = 0;
        private int at = 0;
        /** Letters read that are no blanks: faults are told by these. */
        private int passed = 0;
        private int fault = 0;

        /** From least to most of these signs, each told by its place among them. */
        int readSigns(String signs, int least, int most, int[] into) {
            rewind();
            int n = 0;
            for (; n < most && n < into.length && next() != END; n++) {
                int sign = signs.indexOf((char) next());
                if (sign < 0) return here();
                into[n] = sign;
                skip();
            }
            return n < least || next() != END ? here() : n;
        }

        int readStreet(Race into) {
            rewind();
            for (int i = 1; i <= MOST_CLOCKS; i++) {
                if (!readClock(into)) return fault;
                if (next() == END) return i;
                if (i < MOST_CLOCKS && !takes(',')) return fault;
            }
            return here();
        }

        private boolean readClock(Race into) {
            int kind = next() == END ? -1 : "pcodtm".indexOf((char) next());
            if (kind < 0) return fails(here());
            skip();
            int hands = number(0, DIAL_MINUTES - 1);
            if (hands < 0) return false;
            int rate = 0;
            if (next() == '+' || next() == '-') {
                int sign = next() == '+' ? 1 : -1;
                skip();
                rate = number(0, MOST_RATE);
                if (rate < 0) return false;
                rate *= sign;
            }
            int spring = 0;
            if (next() == '*') {
                skip();
                spring = number(0, MOST_SPRING);
                if (spring < 0) return false;
            }
            into.add(kind, hands, rate, spring);
            return true;
        }

        int readDay(Day into) {
            rewind();
            into.size = 0;
            for (int i = 1; i <= MOST_ACTS; i++) {
                if (!readAct(into)) return fault;
                if (next() == END) return i;
                if (!takes(';')) return fault;
            }
            return here();
        }

        private boolean readAct(Day into) {
            int sign = next();
            switch (sign) {
                case 'h':
                    skip();
                    into.add(PASS, 0, 0);
                    return true;
                case 'b':
                    skip();
                    return readBreath(into);
                case 'w':
                    skip();
                    return readByClock(into, WIND, MOST_SPRING);
                case 't':
                    skip();
                    return readByClock(into, TURN, DIAL_MINUTES - 1);
                default:
                    return fails(here());
            }
        }

        private boolean readBreath(Day into) {
            int window = number(0, HUGE);
            if (window < 0) return false;
            into.add(BREATHE, window, 0);
            return true;
        }

        private boolean readByClock(Day into, int act, int most) {
            if (!isDigit(next())) return fails(here());
            int clock = next() - '0';
            skip();
            if (!takes('+')) return false;
            int amount = number(1, most);
            if (amount < 0) return false;
            into.add(act, clock, amount);
            return true;
        }

        private void rewind() {
            at = 0;
            passed = 0;
            fault = 0;
        }

        /** The next letter that is no blank, or END. */
        private int next() {
            while (at < size && letters[at] == ' ') at++;
            return at < size ? letters[at] : END;
        }

        private void skip() {
            at++;
            passed++;
        }

        private boolean takes(char letter) {
            if (next() != letter) return fails(here());
            skip();
            return true;
        }

        /** A number from least to most, or -1 with the fault told. */
        private int number(int least, int most) {
            if (!isDigit(next())) {
                fails(here());
                return -1;
            }
            int first = here();
            int v = 0;
            for (; at < size && isDigit(letters[at]); at++) {
                v = Math.min(HUGE, v * 10 + letters[at] - '0');
                passed++;
            }
            if (v >= least && v <= most) return v;
            fails(first);
            return -1;
        }

        private static boolean isDigit(int letter) {
            return letter >= '0' && letter <= '9';
        }

        private int here() {
            return FIRST_FAULT - passed;
        }

        private boolean fails(int withFault) {
            fault = withFault;
            return false;
        }
    }
}
