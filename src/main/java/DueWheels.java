import java.util.Arrays;
import java.util.NoSuchElementException;

/**
 * Timers in wheels of due times: wheels turn tick by tick, clocks leap, what is due rings.
 * ../shared/DOC.md tells every call; README.md tells how this file is laid out.
 */
public final class DueWheels {
    public static final int NONE = -1;

    private static final int IS_SO = -2;
    private static final int IS_PAUSED = -2;
    private static final int TOO_FEW = -2;
    private static final int ALL_SET = -3;
    private static final int CLOCK_ENDS = -4;

    private static final int FAR = -1;
    private static final int NOWHERE = -2;

    private static final int MOST_LEVELS = 4;
    private static final int LEAST_SIZE = 2;
    private static final int MOST_SIZE = 16;
    private static final int FIRST_SIZE = 4;
    private static final int LAST_CLOCK = 1000000000;
    private static final int TIMERS = 16;
    private static final int GROUPS = 8;
    private static final int LAST_SORT = 3;
    private static final int LAST_RULE = 2;
    private static final int MOST_PERIOD = 1000;
    private static final int MOST_TIMES = 99;
    private static final int MOST_DELAY = 1000000;
    private static final int MOST_LEAP = 1000000;
    private static final int MOST_GAP = 1000;
    private static final int MOST_TICKS = 100;
    private static final int MOST_RINGS = 100;
    private static final int MOST_TOLD = 20;
    private static final int MOST_KEPT = 40;
    private static final int MOST_SIGNS = 100;
    /** The shortest act has two signs and one between: 33 in 100 signs. */
    private static final int MOST_ACTS = 34;

    private final Works now = new Works();
    /** The works on which questions try what would come, so that they change nothing. */
    private final Works then = new Works();
    private final Shape otherShape = new Shape();
    private final int[] ringingOfGroups = new int[GROUPS];
    private final Row row = new Row();
    private final Log log = new Log();
    private final Text text = new Text();
    private final Acts acts = new Acts();
    private int setInAll;
    private int cancelled;
    private int leaptAhead;
    private int leaptBack;

    public DueWheels() {
    }

    // ---- wheels, the clock

    public int wheels(int a, int b, int c, int d) {
        if (!Shape.isPossible(a, b, c, d)) {
            return NONE;
        }
        if (now.shape.isOf(a, b, c, d)) {
            return IS_SO;
        }
        now.shape.become(a, b, c, d);
        now.layAll();
        return now.shape.levels;
    }

    public int order(int v) {
        if (!isWithin(v, 0, LAST_RULE)) {
            return NONE;
        }
        if (v == now.rule) {
            return IS_SO;
        }
        int before = now.rule;
        now.rule = v;
        return before;
    }

    public int ticks(int n) {
        int refusal = refusalOfTicks(n);
        if (refusal < 0) {
            return refusal;
        }
        int rang = 0;
        for (int i = 0; i < n; i++) {
            now.tick();
            rang += keepWhatRang();
        }
        tellLatest(rang, false);
        return rang;
    }

    public int leaps(int n) {
        int refusal = refusalOfLeap(n);
        if (refusal < 0) {
            return refusal;
        }
        now.leap(n);
        if (n > 0) {
            leaptAhead += n;
        } else {
            leaptBack -= n;
        }
        int rang = keepWhatRang();
        tellLatest(rang, true);
        return rang;
    }

    // ---- timers

    public int sets(int delay, int group, int sort, int period, int times) {
        boolean isRight = isWithin(delay, 1, MOST_DELAY) && isGroup(group) && isWithin(sort, 0, LAST_SORT)
                && isWithin(period, 1, MOST_PERIOD) && isWithin(times, 0, MOST_TIMES);
        if (!isRight) {
            return NONE;
        }
        Timer t = now.leastFree();
        if (t == null) {
            return ALL_SET;
        }
        t.start(now.clock + delay, setInAll);
        t.group = group;
        t.sort = sort;
        t.period = period;
        t.times = times;
        now.lay(t);
        setInAll++;
        return t.number;
    }

    public int cancels(int timer) {
        Timer t = now.find(timer);
        if (t == null) {
            return NONE;
        }
        t.isSet = false;
        cancelled++;
        return now.countSet();
    }

    public int cancelsAll(int group) {
        if (!isGroup(group)) {
            return NONE;
        }
        int gone = 0;
        for (int i = 0; i < TIMERS; i++) {
            Timer t = now.find(i);
            if (t != null && t.group == group) {
                t.isSet = false;
                gone++;
            }
        }
        cancelled += gone;
        return gone;
    }

    public int steady(int timer, boolean is) {
        Timer t = now.find(timer);
        if (t == null) {
            return NONE;
        }
        if (t.isSteady == is) {
            return IS_SO;
        }
        t.isSteady = is;
        return is ? 0 : 1;
    }

    public int pauses(int timer) {
        Timer t = now.find(timer);
        if (t == null) {
            return NONE;
        }
        if (t.isPaused) {
            return IS_SO;
        }
        now.pause(t);
        return t.rest;
    }

    public int resumes(int timer) {
        Timer t = now.find(timer);
        if (t == null) {
            return NONE;
        }
        if (!t.isPaused) {
            return IS_SO;
        }
        now.resume(t);
        return t.due;
    }

    public int holds(int group) {
        if (!isGroup(group)) {
            return NONE;
        }
        int held = 0;
        for (int i = 0; i < TIMERS; i++) {
            Timer t = now.findRunning(i);
            if (t != null && t.group == group) {
                now.pause(t);
                held++;
            }
        }
        return held;
    }

    public int goesOn(int group) {
        if (!isGroup(group)) {
            return NONE;
        }
        int gone = 0;
        for (int i = 0; i < TIMERS; i++) {
            Timer t = now.find(i);
            if (t != null && t.isPaused && t.group == group) {
                now.resume(t);
                gone++;
            }
        }
        return gone;
    }

    public int spreads(int group, int gap) {
        if (!isGroup(group) || !isWithin(gap, 0, MOST_GAP)) {
            return NONE;
        }
        Line line = now.line;
        line.empty();
        for (int i = 0; i < TIMERS; i++) {
            Timer t = now.findRunning(i);
            if (t != null && t.group == group) {
                line.join(t, true, now.rule);
            }
        }
        if (line.length < 2) {
            return TOO_FEW;
        }
        return putApart(line, gap);
    }

    public int delays(int timer, int delay) {
        Timer t = now.find(timer);
        if (t == null || !isWithin(delay, 1, MOST_DELAY)) {
            return NONE;
        }
        int before = t.isPaused ? t.rest : t.due - now.clock;
        if (before == delay) {
            return IS_SO;
        }
        if (t.isPaused) {
            t.rest = delay;
        } else {
            t.due = now.clock + delay;
            now.lay(t);
        }
        row.empty();
        row.put(delay - before);
        return 0;
    }

    public int run() {
        boolean isRight = acts.readsAll(text);
        text.shorten(0);
        if (!isRight) {
            return -1 - acts.wrongAt;
        }
        int rangBefore = log.rangInAll;
        int done = 0;
        while (done < acts.length && does(done)) {
            done++;
        }
        row.empty();
        row.put(done < acts.length ? 1 : 0);
        row.put(log.rangInAll - rangBefore);
        return done;
    }

    public int sign(int v) {
        return text.append(v) ? text.length : NONE;
    }

    public boolean end(int n) {
        if (!isWithin(n, 0, text.length)) {
            return false;
        }
        text.shorten(n);
        return true;
    }

    // ---- what there is

    public int timer(int timer, int what) throws NoSuchElementException {
        Timer t = now.find(timer);
        if (t == null || !isWithin(what, 0, 10)) {
            throw new NoSuchElementException();
        }
        switch (what) {
            case 0:
                return t.isPaused ? now.clock + t.rest : t.due;
            case 1:
                return t.level;
            case 2:
                return t.slot;
            case 3:
                return t.arrival;
            case 4:
                return t.group;
            case 5:
                return t.sort;
            case 6:
                return t.period;
            case 7:
                return t.times;
            case 8:
                return t.rang;
            case 9:
                return t.isSteady ? 1 : 0;
            default:
                return t.isPaused ? t.rest : NONE;
        }
    }

    public int slot(int level, int slot) {
        if (!now.shape.hasLevel(level) || !isWithin(slot, 0, now.shape.sizeOf(level) - 1)) {
            return NONE;
        }
        Line line = now.line;
        line.empty();
        for (int i = 0; i < TIMERS; i++) {
            Timer t = now.find(i);
            if (t != null && t.level == level && t.slot == slot) {
                line.join(t, false, now.rule);
            }
        }
        tellLine(line);
        return line.length;
    }

    public int far() {
        Line line = now.line;
        line.empty();
        for (int i = 0; i < TIMERS; i++) {
            Timer t = now.find(i);
            if (t != null && t.level == FAR) {
                line.join(t, true, 0);
            }
        }
        tellLine(line);
        return line.length;
    }

    public int group(int group) {
        if (!isGroup(group)) {
            return NONE;
        }
        row.empty();
        for (int i = 0; i < TIMERS; i++) {
            Timer t = now.find(i);
            if (t != null && t.group == group) {
                row.put(i);
            }
        }
        return row.length;
    }

    public int full(int level) {
        if (!now.shape.hasLevel(level)) {
            return NONE;
        }
        int together = 0;
        row.empty();
        for (int slot = 0; slot < now.shape.sizeOf(level); slot++) {
            int inSlot = now.countIn(level, slot);
            if (inSlot > 0) {
                row.put(slot);
            }
            together += inSlot;
        }
        int slots = row.length;
        row.put(together);
        return slots;
    }

    // ---- what comes, were nothing done but TICKS

    public int next() {
        Timer first = now.firstDue();
        if (first == null) {
            return TOO_FEW;
        }
        Line line = now.line;
        line.empty();
        for (int i = 0; i < TIMERS; i++) {
            Timer t = now.findRunning(i);
            if (t != null && t.due == first.due) {
                line.join(t, false, now.rule);
            }
        }
        tellLine(line);
        return first.due;
    }

    public int rings(int n) {
        int refusal = refusalOfTicks(n);
        if (refusal < 0) {
            return refusal;
        }
        then.copy(now);
        row.empty();
        int ringing = 0;
        for (int i = 0; i < n; i++) {
            then.tick();
            tellWhatRings(MOST_TOLD - ringing);
            ringing += then.line.length;
        }
        return ringing;
    }

    public int quiet(int n) {
        int refusal = refusalOfTicks(n);
        if (refusal < 0) {
            return refusal;
        }
        then.copy(now);
        int most = 0;
        int first = 0;
        int lasting = 0;
        for (int i = 0; i < n; i++) {
            then.tick();
            lasting = then.line.length == 0 ? lasting + 1 : 0;
            if (lasting > most) {
                most = lasting;
                first = then.clock - lasting + 1;
            }
        }
        row.empty();
        row.put(first);
        return most;
    }

    public int moves(int timer) {
        Timer t = now.find(timer);
        if (t == null) {
            return NONE;
        }
        return t.isPaused ? IS_PAUSED : now.shape.movesFrom(t.level, t.due);
    }

    public int cost(int a, int b, int c, int d) {
        if (!Shape.isPossible(a, b, c, d)) {
            return NONE;
        }
        otherShape.become(a, b, c, d);
        int far = 0;
        int most = 0;
        for (int i = 0; i < TIMERS; i++) {
            Timer t = now.findRunning(i);
            if (t != null) {
                int level = otherShape.levelFor(t.due - now.clock);
                far += level == FAR ? 1 : 0;
                most = Math.max(most, otherShape.movesFrom(level, t.due));
            }
        }
        row.empty();
        row.put(far);
        row.put(most);
        return movesBy(otherShape);
    }

    public int best(int l) {
        if (!isWithin(l, 1, MOST_LEVELS)) {
            return NONE;
        }
        int bestSize = 0;
        int least = 0;
        for (int size = LEAST_SIZE; size <= MOST_SIZE; size++) {
            otherShape.become(size, l > 1 ? size : 0, l > 2 ? size : 0, l > 3 ? size : 0);
            int together = movesBy(otherShape) + l * size;
            if (bestSize == 0 || together < least) {
                bestSize = size;
                least = together;
            }
        }
        row.empty();
        row.put(least);
        return bestSize;
    }

    public int ahead(int one, int other) {
        Timer a = now.find(one);
        Timer b = now.find(other);
        if (a == null || b == null || one == other) {
            return NONE;
        }
        if (a.isPaused || b.isPaused) {
            return IS_PAUSED;
        }
        boolean isFirst = a.isAhead(b, true, now.rule);
        row.empty();
        row.put(isFirst ? a.due : b.due);
        return isFirst ? 0 : 1;
    }

    public int way(int timer) {
        Timer t = now.find(timer);
        if (t == null) {
            return NONE;
        }
        if (t.isPaused) {
            return IS_PAUSED;
        }
        int moves = now.shape.movesFrom(t.level, t.due);
        int level = t.level;
        row.empty();
        row.put(level);
        for (int i = 0; i < moves; i++) {
            int clock = now.shape.turnTime(level, t.due);
            level = now.shape.levelFor(t.due - clock);
            row.put(clock);
            row.put(level);
        }
        row.put(t.due);
        return moves;
    }

    public int would(int n) {
        int refusal = refusalOfLeap(n);
        if (refusal < 0) {
            return refusal;
        }
        then.copy(now);
        then.leap(n);
        row.empty();
        for (int i = 0; i < then.line.length && i < MOST_TOLD; i++) {
            Timer t = then.line.at(i);
            if (t != null) {
                row.put(t.number);
                row.put(t.isSet ? t.due : NONE);
            }
        }
        return then.line.length;
    }

    public int busiest(int n) {
        int refusal = refusalOfTicks(n);
        if (refusal < 0) {
            return refusal;
        }
        then.copy(now);
        int clock = now.clock;
        int most = 0;
        int more = 0;
        for (int i = 0; i < n; i++) {
            then.tick();
            int ringing = then.line.length;
            if (ringing > most) {
                clock = then.clock;
                most = ringing;
                more = 0;
            } else if (ringing == most && most > 0) {
                more = 1;
            }
        }
        row.empty();
        row.put(most);
        row.put(more);
        return clock;
    }

    public int till(int m) {
        if (!isWithin(m, 1, MOST_RINGS)) {
            return NONE;
        }
        int refusal = refusalOfTicks(MOST_TICKS);
        if (refusal < 0) {
            return refusal;
        }
        then.copy(now);
        int rang = 0;
        for (int i = 0; i < MOST_TICKS && rang < m; i++) {
            then.tick();
            rang += then.line.length;
        }
        if (rang < m) {
            return TOO_FEW;
        }
        row.empty();
        row.put(rang);
        row.put(then.moved - now.moved);
        return then.clock;
    }

    public int loudest(int n) {
        int refusal = refusalOfTicks(n);
        if (refusal < 0) {
            return refusal;
        }
        int[] ringing = ringingOfGroups;
        Arrays.fill(ringing, 0);
        then.copy(now);
        for (int i = 0; i < n; i++) {
            then.tick();
            countGroups(then.line, ringing);
        }
        int loudest = 0;
        for (int g = 1; g < GROUPS; g++) {
            if (ringing[g] > ringing[loudest]) {
                loudest = g;
            }
        }
        if (ringing[loudest] == 0) {
            return TOO_FEW;
        }
        row.empty();
        for (int g = 0; g < GROUPS; g++) {
            row.put(ringing[g]);
        }
        return loudest;
    }

    public int clashes(int n) {
        int refusal = refusalOfTicks(n);
        if (refusal < 0) {
            return refusal;
        }
        then.copy(now);
        row.empty();
        int clashing = 0;
        for (int i = 0; i < n; i++) {
            then.tick();
            if (then.line.length > 1) {
                clashing++;
            }
            if (then.line.length > 1 && clashing == 1) {
                row.put(then.clock);
                row.put(numberOf(then.line.at(0)));
                row.put(numberOf(then.line.at(1)));
            }
        }
        for (int i = 0; i < 3 && clashing == 0; i++) {
            row.put(NONE);
        }
        return clashing;
    }

    // ---- what was

    public int rung(int i) {
        int at = log.placeOf(i);
        if (!isWithin(at, 0, MOST_KEPT - 1)) {
            return NONE;
        }
        row.empty();
        row.put(log.clocks[at]);
        row.put(log.dues[at]);
        row.put(log.groups[at]);
        row.put(log.rangs[at]);
        return log.timers[at];
    }

    public int told(int what) {
        switch (what) {
            case 0:
                return log.rangInAll;
            case 1:
                return now.moved;
            case 2:
                return now.missed;
            case 3:
                return cancelled;
            case 4:
                return leaptAhead;
            case 5:
                return leaptBack;
            case 6:
                return setInAll;
            default:
                return NONE;
        }
    }

    public int count(int what) {
        switch (what) {
            case 0:
                return now.clock;
            case 1:
                return now.shape.levels;
            case 2:
                return now.shape.whole;
            case 3:
                return now.countSet();
            case 4:
                return now.countOn(NOWHERE);
            case 5:
                return now.countOn(FAR);
            case 6:
                return now.rule;
            case 7:
                return log.kept;
            case 8:
                return row.length;
            case 9:
                return text.length;
            default:
                return isWithin(what, 10, 13) ? now.shape.sizeOf(what - 10) : NONE;
        }
    }

    public long row(int i) throws NoSuchElementException {
        if (!isWithin(i, 0, row.length - 1) || i >= row.numbers.length) {
            throw new NoSuchElementException();
        }
        return row.numbers[i];
    }

    // ---- what the calls share

    private static boolean isWithin(int v, int least, int most) {
        return v >= least && v <= most;
    }

    private static boolean isGroup(int v) {
        return isWithin(v, 0, GROUPS - 1);
    }

    /** Spans are above 0 at all times: the test is for the machine alone. */
    private static boolean isMultiple(int number, int span) {
        return span > 0 && number % span == 0;
    }

    private static int numberOf(Timer t) {
        return t == null ? NONE : t.number;
    }

    private int refusalOfTicks(int n) {
        if (!isWithin(n, 1, MOST_TICKS)) {
            return NONE;
        }
        return now.clock > LAST_CLOCK - n ? CLOCK_ENDS : 0;
    }

    private int refusalOfLeap(int n) {
        if (n == 0 || !isWithin(n, -MOST_LEAP, MOST_LEAP)) {
            return NONE;
        }
        return isWithin(now.clock + n, 0, LAST_CLOCK) ? 0 : CLOCK_ENDS;
    }

    private int keepWhatRang() {
        Line line = now.line;
        for (int i = 0; i < line.length; i++) {
            Timer t = line.at(i);
            if (t != null) {
                log.keep(t, now.clock);
            }
        }
        return line.length;
    }

    /** The row of a call by which so many rang, out of the log: it keeps more of the latest than a row tells. */
    private void tellLatest(int rang, boolean byDue) {
        row.empty();
        int told = Math.min(rang, MOST_TOLD);
        for (int i = log.kept - told; i < log.kept; i++) {
            int at = log.placeOf(i);
            if (isWithin(at, 0, MOST_KEPT - 1)) {
                row.put(log.timers[at]);
                row.put(byDue ? log.dues[at] : log.clocks[at]);
            }
        }
    }

    private void tellLine(Line line) {
        row.empty();
        for (int i = 0; i < line.length; i++) {
            row.put(numberOf(line.at(i)));
        }
    }

    private void tellWhatRings(int most) {
        for (int i = 0; i < then.line.length && i < most; i++) {
            row.put(numberOf(then.line.at(i)));
            row.put(then.clock);
        }
    }

    private int putApart(Line line, int gap) {
        int others = 0;
        int due = 0;
        for (int i = 0; i < line.length; i++) {
            Timer t = line.at(i);
            if (t != null) {
                due = i == 0 ? t.due : due + gap;
                others += t.due == due ? 0 : 1;
                t.due = due;
                now.lay(t);
            }
        }
        row.empty();
        row.put(due);
        return others;
    }

    private int movesBy(Shape shape) {
        int moves = 0;
        for (int i = 0; i < TIMERS; i++) {
            Timer t = now.findRunning(i);
            if (t != null) {
                moves += shape.movesFrom(shape.levelFor(t.due - now.clock), t.due);
            }
        }
        return moves;
    }

    private static void countGroups(Line line, int[] ringing) {
        for (int i = 0; i < line.length; i++) {
            Timer t = line.at(i);
            if (t != null && t.group >= 0 && t.group < ringing.length) {
                ringing[t.group]++;
            }
        }
    }

    private boolean does(int act) {
        if (act < 0 || act >= MOST_ACTS) {
            return false;
        }
        int number = acts.numbers[act];
        switch (acts.kinds[act]) {
            case 's':
                return sets(number, 0, acts.sorts[act], acts.periods[act], 0) >= 0;
            case 't':
                return ticks(number) >= 0;
            case 'l':
                return leaps(number) >= 0;
            case 'c':
                return cancels(number) >= 0;
            default:
                return false;
        }
    }

    /** How many wheels there are and of what sizes: where a due time lies in them, and when it is moved on. */
    private static final class Shape {
        final int[] sizes = new int[MOST_LEVELS];
        final int[] spans = new int[MOST_LEVELS];
        int levels;
        int whole;

        static boolean isPossible(int a, int b, int c, int d) {
            boolean areSizes = isSize(a) && isSizeOrNone(b) && isSizeOrNone(c) && isSizeOrNone(d);
            boolean noneBehindNone = (b != 0 || c == 0) && (c != 0 || d == 0);
            return areSizes && noneBehindNone;
        }

        private static boolean isSize(int v) {
            return isWithin(v, LEAST_SIZE, MOST_SIZE);
        }

        private static boolean isSizeOrNone(int v) {
            return v == 0 || isSize(v);
        }

        boolean isOf(int a, int b, int c, int d) {
            return sizeOf(0) == a && sizeOf(1) == b && sizeOf(2) == c && sizeOf(3) == d;
        }

        void become(int a, int b, int c, int d) {
            levels = 0;
            whole = 1;
            for (int k = 0; k < MOST_LEVELS; k++) {
                int size = k == 0 ? a : k == 1 ? b : k == 2 ? c : d;
                sizes[k] = size;
                spans[k] = whole;
                if (size > 0) {
                    levels++;
                    whole *= size;
                }
            }
        }

        void copy(Shape other) {
            become(other.sizeOf(0), other.sizeOf(1), other.sizeOf(2), other.sizeOf(3));
        }

        boolean hasLevel(int level) {
            return isWithin(level, 0, levels - 1);
        }

        int sizeOf(int level) {
            return level < 0 || level >= MOST_LEVELS ? 0 : sizes[level];
        }

        /** How much of the clock one slot holds; what is far lies as in slots of the whole. */
        int spanOf(int level) {
            return level < 0 || level >= MOST_LEVELS ? whole : spans[level];
        }

        int levelFor(int d) {
            for (int k = 0; k < levels && k < MOST_LEVELS; k++) {
                if (sizes[k] * spans[k] > d) {
                    return k;
                }
            }
            return FAR;
        }

        int slotFor(int level, int time) {
            if (level < 0 || level >= MOST_LEVELS || spans[level] < 1 || sizes[level] < 1) {
                return 0;
            }
            return time / spans[level] % sizes[level];
        }

        /** The clock at which what lies on a level above 0, or far, is laid anew: its slot's start. */
        int turnTime(int level, int due) {
            int span = spanOf(level);
            return span < 1 ? due : due - due % span;
        }

        int movesFrom(int level, int due) {
            int moves = 0;
            int on = level;
            for (int i = 0; i <= MOST_LEVELS && on != 0; i++) {
                on = levelFor(due - turnTime(on, due));
                moves++;
            }
            return moves;
        }
    }

    /** One timer; its number stays when it is not set, for the next that is. */
    private static final class Timer {
        final int number;
        boolean isSet;
        int due;
        int dueAsRang;
        int arrival;
        int group;
        int sort;
        int period;
        int times;
        int rang;
        boolean isSteady;
        boolean isPaused;
        int rest;
        int level;
        int slot;

        Timer(int number) {
            this.number = number;
        }

        void start(int firstDue, int setAhead) {
            isSet = true;
            due = firstDue;
            arrival = setAhead;
            rang = 0;
            isSteady = false;
            isPaused = false;
            rest = 0;
        }

        void copy(Timer other) {
            isSet = other.isSet;
            due = other.due;
            dueAsRang = other.dueAsRang;
            arrival = other.arrival;
            group = other.group;
            sort = other.sort;
            period = other.period;
            times = other.times;
            rang = other.rang;
            isSteady = other.isSteady;
            isPaused = other.isPaused;
            rest = other.rest;
            level = other.level;
            slot = other.slot;
        }

        boolean isAhead(Timer other, boolean byDue, int rule) {
            if (byDue && due != other.due) {
                return due < other.due;
            }
            if (rule == 1 && group != other.group) {
                return group < other.group;
            }
            return rule == 2 ? arrival > other.arrival : arrival < other.arrival;
        }
    }

    /** Timers one behind another: each takes its place as it joins. */
    private static final class Line {
        final Timer[] timers = new Timer[TIMERS];
        int length;

        void empty() {
            length = 0;
        }

        Timer at(int i) {
            return i < 0 || i >= length || i >= TIMERS ? null : timers[i];
        }

        void join(Timer t, boolean byDue, int rule) {
            if (length < 0 || length >= TIMERS) {
                return;
            }
            int place = length;
            while (place > 0) {
                Timer before = timers[place - 1];
                if (before == null || !t.isAhead(before, byDue, rule)) {
                    break;
                }
                timers[place] = before;
                place--;
            }
            timers[place] = t;
            length++;
        }
    }

    /** The clock, the wheels and the timers in them: what ticks and leaps do. */
    private static final class Works {
        final Shape shape = new Shape();
        final Timer[] timers = new Timer[TIMERS];
        /** After a tick or a leap: what rang by it. */
        final Line line = new Line();
        int clock;
        int rule;
        int moved;
        int missed;

        Works() {
            for (int i = 0; i < TIMERS; i++) {
                timers[i] = new Timer(i);
            }
            shape.become(FIRST_SIZE, FIRST_SIZE, FIRST_SIZE, 0);
        }

        void copy(Works other) {
            shape.copy(other.shape);
            for (int i = 0; i < TIMERS; i++) {
                Timer mine = timers[i];
                Timer its = other.timers[i];
                if (mine != null && its != null) {
                    mine.copy(its);
                }
            }
            clock = other.clock;
            rule = other.rule;
            moved = other.moved;
            missed = other.missed;
        }

        Timer find(int number) {
            if (number < 0 || number >= TIMERS) {
                return null;
            }
            Timer t = timers[number];
            return t == null || !t.isSet ? null : t;
        }

        Timer findRunning(int number) {
            Timer t = find(number);
            return t == null || t.isPaused ? null : t;
        }

        Timer leastFree() {
            for (int i = 0; i < TIMERS; i++) {
                Timer t = timers[i];
                if (t != null && !t.isSet) {
                    return t;
                }
            }
            return null;
        }

        Timer firstDue() {
            Timer first = null;
            for (int i = 0; i < TIMERS; i++) {
                Timer t = findRunning(i);
                if (t != null && (first == null || t.due < first.due)) {
                    first = t;
                }
            }
            return first;
        }

        int countSet() {
            int set = 0;
            for (int i = 0; i < TIMERS; i++) {
                set += find(i) == null ? 0 : 1;
            }
            return set;
        }

        int countOn(int level) {
            int on = 0;
            for (int i = 0; i < TIMERS; i++) {
                Timer t = find(i);
                on += t != null && t.level == level ? 1 : 0;
            }
            return on;
        }

        int countIn(int level, int slot) {
            int in = 0;
            for (int i = 0; i < TIMERS; i++) {
                Timer t = find(i);
                in += t != null && t.level == level && t.slot == slot ? 1 : 0;
            }
            return in;
        }

        void lay(Timer t) {
            t.level = shape.levelFor(t.due - clock);
            t.slot = t.level == FAR ? FAR : shape.slotFor(t.level, t.due);
        }

        void layAll() {
            for (int i = 0; i < TIMERS; i++) {
                Timer t = findRunning(i);
                if (t != null) {
                    lay(t);
                }
            }
        }

        void pause(Timer t) {
            t.isPaused = true;
            t.rest = t.due - clock;
            t.level = NOWHERE;
            t.slot = NOWHERE;
        }

        void resume(Timer t) {
            t.isPaused = false;
            t.due = clock + t.rest;
            lay(t);
        }

        void tick() {
            clock++;
            if (isMultiple(clock, shape.whole)) {
                bringFarOnes();
            }
            for (int level = shape.levels - 1; level > 0; level--) {
                if (isMultiple(clock, shape.spanOf(level))) {
                    moveFrom(level, shape.slotFor(level, clock));
                }
            }
            int slot = shape.slotFor(0, clock);
            line.empty();
            for (int i = 0; i < TIMERS; i++) {
                Timer t = find(i);
                if (t != null && t.level == 0 && t.slot == slot) {
                    line.join(t, false, rule);
                }
            }
            ringLine();
        }

        void leap(int n) {
            clock += n;
            line.empty();
            for (int i = 0; i < TIMERS; i++) {
                Timer t = findRunning(i);
                if (t != null && t.isSteady) {
                    t.due += n;
                } else if (t != null && t.due <= clock) {
                    line.join(t, true, rule);
                }
            }
            ringLine();
            layAll();
        }

        private void bringFarOnes() {
            for (int i = 0; i < TIMERS; i++) {
                Timer t = find(i);
                if (t != null && t.level == FAR && t.due - clock < shape.whole) {
                    lay(t);
                    moved++;
                }
            }
        }

        private void moveFrom(int level, int slot) {
            for (int i = 0; i < TIMERS; i++) {
                Timer t = find(i);
                if (t != null && t.level == level && t.slot == slot) {
                    lay(t);
                    moved++;
                }
            }
        }

        private void ringLine() {
            for (int i = 0; i < line.length; i++) {
                Timer t = line.at(i);
                if (t != null) {
                    ring(t);
                }
            }
            for (int i = 0; i < line.length; i++) {
                Timer t = line.at(i);
                if (t != null && t.isSet) {
                    lay(t);
                }
            }
        }

        private void ring(Timer t) {
            t.rang++;
            t.dueAsRang = t.due;
            if (t.times == 1 || t.sort == 0) {
                t.isSet = false;
                return;
            }
            if (t.times > 0) {
                t.times--;
            }
            if (t.sort == 1) {
                catchUp(t);
                return;
            }
            if (t.sort == 3) {
                t.period = Math.min(2 * t.period, MOST_PERIOD);
            }
            t.due = clock + t.period;
        }

        /** A leap may pass a million periods: they are counted, not gone through. */
        private void catchUp(Timer t) {
            int passed = t.period < 1 ? 0 : (clock - t.due) / t.period;
            t.due += (passed + 1) * t.period;
            missed += passed;
        }
    }

    /** The numbers that the latest call to say so told. */
    private static final class Row {
        final long[] numbers = new long[2 * MOST_TOLD];
        int length;

        void empty() {
            length = 0;
        }

        void put(long number) {
            if (length >= 0 && length < numbers.length) {
                numbers[length] = number;
                length++;
            }
        }
    }

    /** The latest that rang, in rows that begin anew when they are full. */
    private static final class Log {
        final int[] timers = new int[MOST_KEPT];
        final int[] clocks = new int[MOST_KEPT];
        final int[] dues = new int[MOST_KEPT];
        final int[] groups = new int[MOST_KEPT];
        final int[] rangs = new int[MOST_KEPT];
        int kept;
        int rangInAll;
        private int nextPlace;

        void keep(Timer t, int clock) {
            if (nextPlace < 0 || nextPlace >= MOST_KEPT) {
                nextPlace = 0;
            }
            timers[nextPlace] = t.number;
            clocks[nextPlace] = clock;
            dues[nextPlace] = t.dueAsRang;
            groups[nextPlace] = t.group;
            rangs[nextPlace] = t.rang;
            nextPlace++;
            kept = Math.min(kept + 1, MOST_KEPT);
            rangInAll++;
        }

        /** Where number i of those kept stands, 0 the oldest; NONE if there is none such. */
        int placeOf(int i) {
            if (!isWithin(i, 0, kept - 1)) {
                return NONE;
            }
            return Math.floorMod(nextPlace - kept + i, MOST_KEPT);
        }
    }

    /** THE TEXT: signs 0 to 255. */
    private static final class Text {
        final int[] signs = new int[MOST_SIGNS];
        int length;

        boolean append(int v) {
            if (length < 0 || length > MOST_SIGNS - 4) {
                return false;
            }
            for (int i = 0; i < 4; i++) {
                signs[length + i] = (v >>> (24 - 8 * i)) & 255;
            }
            length += 4;
            return true;
        }

        void shorten(int n) {
            length = n;
        }

        /** NONE at the end, which is no sign that can stand anywhere. */
        int at(int i) {
            return i < 0 || i >= length || i >= MOST_SIGNS ? NONE : signs[i];
        }
    }

    /** The acts that a text tells, read whole before the first is done; or the place of what can't stand. */
    private static final class Acts {
        final int[] kinds = new int[MOST_ACTS];
        final int[] numbers = new int[MOST_ACTS];
        final int[] sorts = new int[MOST_ACTS];
        final int[] periods = new int[MOST_ACTS];
        int length;
        int wrongAt;
        private int place;
        private int number;

        boolean readsAll(Text text) {
            length = 0;
            place = 0;
            wrongAt = 0;
            if (text.length == 0) {
                return true;
            }
            while (length >= 0 && length < MOST_ACTS) {
                if (!readsAct(text)) {
                    return false;
                }
                length++;
                if (place >= text.length) {
                    return true;
                }
                if (!readsSign(text, ';')) {
                    return false;
                }
            }
            return fails(place);
        }

        private boolean readsAct(Text text) {
            int kind = text.at(place);
            if (length < 0 || length >= MOST_ACTS) {
                return fails(place);
            }
            kinds[length] = kind;
            place++;
            switch (kind) {
                case 's':
                    return readsSet(text);
                case 't':
                    return readsNumber(text, 1, 1, 9) && keepsNumber();
                case 'l':
                    return readsLeap(text);
                case 'c':
                    return readsNumber(text, 2, 0, 99) && keepsNumber();
                default:
                    return fails(place - 1);
            }
        }

        private boolean readsSet(Text text) {
            boolean isRead = readsNumber(text, 4, 1, 9999) && keepsNumber()
                    && readsSign(text, ',') && readsNumber(text, 1, 0, LAST_SORT);
            if (!isRead || length < 0 || length >= MOST_ACTS) {
                return false;
            }
            sorts[length] = number;
            periods[length] = 1;
            if (number == 0) {
                return true;
            }
            if (!readsSign(text, ',') || !readsNumber(text, 4, 1, MOST_PERIOD)) {
                return false;
            }
            periods[length] = number;
            return true;
        }

        private boolean readsLeap(Text text) {
            boolean isBack = text.at(place) == '-';
            if (isBack) {
                place++;
            }
            if (!readsNumber(text, 4, 1, 9999)) {
                return false;
            }
            number = isBack ? -number : number;
            return keepsNumber();
        }

        private boolean keepsNumber() {
            if (length < 0 || length >= MOST_ACTS) {
                return false;
            }
            numbers[length] = number;
            return true;
        }

        /** Digits are counted before the number is weighed: the last digit is known when no other follows. */
        private boolean readsNumber(Text text, int mostDigits, int least, int most) {
            number = 0;
            int digits = 0;
            while (digits < mostDigits && isDigit(text.at(place))) {
                number = 10 * number + text.at(place) - '0';
                place++;
                digits++;
            }
            if (digits == 0 || isDigit(text.at(place))) {
                return fails(place);
            }
            return isWithin(number, least, most) || fails(place - 1);
        }

        private boolean readsSign(Text text, int sign) {
            if (text.at(place) != sign) {
                return fails(place);
            }
            place++;
            return true;
        }

        private static boolean isDigit(int sign) {
            return isWithin(sign, '0', '9');
        }

        private boolean fails(int where) {
            wrongAt = where;
            return false;
        }
    }
}
