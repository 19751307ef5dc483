import java.util.ArrayList;
import java.util.Comparator;
import java.util.List;
import java.util.NoSuchElementException;
import java.util.regex.Matcher;
import java.util.regex.Pattern;

/** The document word by word, slow and plain: slots are lists, what comes is tried tick by tick on a copy. */
final class Model {
    static final class T {
        int number, due, arrival, group, sort, period, times, rang, rest;
        boolean steady, paused;

        T copy() {
            T t = new T();
            t.number = number; t.due = due; t.arrival = arrival; t.group = group; t.sort = sort; t.period = period;
            t.times = times; t.rang = rang; t.rest = rest; t.steady = steady; t.paused = paused;
            return t;
        }
    }

    /** What rang: timer, clock, due, group, rang. */
    record Rang(int timer, int clock, int due, int group, int rang) {
    }

    private List<Integer> sizes = List.of(4, 4, 4);
    private int clock, rule, moved, missed, cancelled, ahead, back, set, rangAll;
    private final List<T> timers = new ArrayList<>();
    private List<List<List<T>>> wheels = new ArrayList<>();
    private final List<T> far = new ArrayList<>();
    private List<Long> row = new ArrayList<>();
    private final List<Rang> log = new ArrayList<>();
    private String text = "";
    /** Of a copy: numbers of timers that were moved, one for each time, and the level each came to. */
    private final List<int[]> movedLog = new ArrayList<>();

    Model() {
        empty();
    }

    // ---- the parts

    private void empty() {
        wheels = new ArrayList<>();
        for (int size : sizes) {
            List<List<T>> wheel = new ArrayList<>();
            for (int i = 0; i < size; i++) {
                wheel.add(new ArrayList<>());
            }
            wheels.add(wheel);
        }
        far.clear();
    }

    private int span(int k) {
        int span = 1;
        for (int i = 0; i < k; i++) {
            span *= sizes.get(i);
        }
        return span;
    }

    private int whole() {
        return span(sizes.size());
    }

    private void takeOut(T t) {
        far.remove(t);
        for (List<List<T>> wheel : wheels) {
            for (List<T> slot : wheel) {
                slot.remove(t);
            }
        }
    }

    private int lay(T t) {
        takeOut(t);
        int d = t.due - clock;
        for (int k = 0; k < sizes.size(); k++) {
            if ((long) sizes.get(k) * span(k) > d) {
                wheels.get(k).get(t.due / span(k) % sizes.get(k)).add(t);
                return k;
            }
        }
        far.add(t);
        return -1;
    }

    private void layAll() {
        empty();
        for (T t : timers) {
            if (!t.paused) {
                lay(t);
            }
        }
    }

    private void move(T t) {
        int level = lay(t);
        moved++;
        movedLog.add(new int[] {t.number, clock, level});
    }

    private Comparator<T> order() {
        Comparator<T> byArrival = Comparator.comparingInt(t -> t.arrival);
        return switch (rule) {
            case 1 -> Comparator.<T>comparingInt(t -> t.group).thenComparing(byArrival);
            case 2 -> byArrival.reversed();
            default -> byArrival;
        };
    }

    private Comparator<T> dueThenOrder() {
        return Comparator.<T>comparingInt(t -> t.due).thenComparing(order());
    }

    private List<Rang> tick() {
        clock++;
        if (clock % whole() == 0) {
            for (T t : new ArrayList<>(far)) {
                if (t.due - clock < whole()) {
                    move(t);
                }
            }
        }
        for (int k = sizes.size() - 1; k >= 1; k--) {
            if (clock % span(k) == 0) {
                for (T t : new ArrayList<>(wheels.get(k).get(clock / span(k) % sizes.get(k)))) {
                    move(t);
                }
            }
        }
        List<T> ringing = new ArrayList<>(wheels.get(0).get(clock % sizes.get(0)));
        ringing.sort(order());
        return ring(ringing);
    }

    private List<Rang> ring(List<T> ringing) {
        List<Rang> told = new ArrayList<>();
        for (T t : ringing) {
            t.rang++;
            told.add(new Rang(t.number, clock, t.due, t.group, t.rang));
        }
        for (T t : ringing) {
            takeOut(t);
            if (t.times == 1 || t.sort == 0) {
                timers.remove(t);
                continue;
            }
            if (t.times != 0) {
                t.times--;
            }
            if (t.sort == 1) {
                t.due += t.period;
                while (t.due <= clock) {
                    t.due += t.period;
                    missed++;
                }
            }
            if (t.sort == 3) {
                t.period *= 2;
                if (t.period > 1000) {
                    t.period = 1000;
                }
            }
            if (t.sort >= 2) {
                t.due = clock + t.period;
            }
            lay(t);
        }
        return told;
    }

    private List<Rang> leap(int n) {
        clock += n;
        List<T> ringing = new ArrayList<>();
        for (T t : timers) {
            if (t.paused) {
                continue;
            }
            if (t.steady) {
                t.due += n;
            } else if (t.due <= clock) {
                ringing.add(t);
            }
        }
        ringing.sort(dueThenOrder());
        List<Rang> told = ring(ringing);
        layAll();
        return told;
    }

    private void keep(List<Rang> told) {
        rangAll += told.size();
        log.addAll(told);
        while (log.size() > 40) {
            log.remove(0);
        }
    }

    private Model copy() {
        Model m = new Model();
        m.sizes = sizes;
        m.clock = clock;
        m.rule = rule;
        m.empty();
        for (T t : timers) {
            T c = t.copy();
            m.timers.add(c);
            if (t.paused) {
                continue;
            }
            int level = level(t);
            if (level < 0) {
                m.far.add(c);
            } else {
                m.wheels.get(level).get(slotOf(t)).add(c);
            }
        }
        return m;
    }

    private int level(T t) {
        for (int k = 0; k < wheels.size(); k++) {
            for (List<T> slot : wheels.get(k)) {
                if (slot.contains(t)) {
                    return k;
                }
            }
        }
        return -1;
    }

    private int slotOf(T t) {
        for (List<List<T>> wheel : wheels) {
            for (int i = 0; i < wheel.size(); i++) {
                if (wheel.get(i).contains(t)) {
                    return i;
                }
            }
        }
        return -1;
    }

    private T find(int number) {
        for (T t : timers) {
            if (t.number == number) {
                return t;
            }
        }
        return null;
    }

    private List<T> running() {
        List<T> list = new ArrayList<>();
        for (T t : timers) {
            if (!t.paused) {
                list.add(t);
            }
        }
        return list;
    }

    private List<T> ofGroup(int group) {
        List<T> list = new ArrayList<>();
        for (int i = 0; i < 16; i++) {
            T t = find(i);
            if (t != null && t.group == group) {
                list.add(t);
            }
        }
        return list;
    }

    private void tells(long... numbers) {
        row = new ArrayList<>();
        for (long n : numbers) {
            row.add(n);
        }
    }

    private void rowOf(List<T> list) {
        row = new ArrayList<>();
        for (T t : list) {
            row.add((long) t.number);
        }
    }

    private static List<Integer> sizesOf(int... v) {
        List<Integer> list = new ArrayList<>();
        int k = 0;
        while (k < 4 && v[k] != 0) {
            if (v[k] < 2 || v[k] > 16) {
                return null;
            }
            list.add(v[k]);
            k++;
        }
        for (; k < 4; k++) {
            if (v[k] != 0) {
                return null;
            }
        }
        return list.isEmpty() ? null : list;
    }

    private static boolean badGroup(int g) {
        return g < 0 || g > 7;
    }

    private int badTicks(int n) {
        return n < 1 || n > 100 ? -1 : (long) clock + n > 1000000000L ? -4 : 0;
    }

    private int badLeap(int n) {
        if (n == 0 || n < -1000000 || n > 1000000) {
            return -1;
        }
        return (long) clock + n < 0 || (long) clock + n > 1000000000L ? -4 : 0;
    }

    /** The farthest any is off: what the test looks at ahead of questions that go all the way here. */
    int farthest() {
        int most = 0;
        for (T t : running()) {
            most = Math.max(most, t.due - clock);
        }
        return most;
    }

    // ---- the face

    int wheels(int a, int b, int c, int d) {
        List<Integer> wanted = sizesOf(a, b, c, d);
        if (wanted == null) {
            return -1;
        }
        if (wanted.equals(sizes)) {
            return -2;
        }
        sizes = wanted;
        layAll();
        return sizes.size();
    }

    int order(int v) {
        if (v < 0 || v > 2) {
            return -1;
        }
        if (v == rule) {
            return -2;
        }
        int was = rule;
        rule = v;
        return was;
    }

    int ticks(int n) {
        if (badTicks(n) < 0) {
            return badTicks(n);
        }
        List<Rang> told = new ArrayList<>();
        for (int i = 0; i < n; i++) {
            told.addAll(tick());
        }
        keep(told);
        row = new ArrayList<>();
        for (Rang r : told.subList(Math.max(0, told.size() - 20), told.size())) {
            row.add((long) r.timer);
            row.add((long) r.clock);
        }
        return told.size();
    }

    int leaps(int n) {
        if (badLeap(n) < 0) {
            return badLeap(n);
        }
        List<Rang> told = leap(n);
        if (n > 0) {
            ahead += n;
        } else {
            back += -n;
        }
        keep(told);
        row = new ArrayList<>();
        for (Rang r : told) {
            row.add((long) r.timer);
            row.add((long) r.due);
        }
        return told.size();
    }

    int sets(int delay, int group, int sort, int period, int times) {
        if (delay < 1 || delay > 1000000 || badGroup(group) || sort < 0 || sort > 3 || period < 1 || period > 1000
                || times < 0 || times > 99) {
            return -1;
        }
        if (timers.size() == 16) {
            return -3;
        }
        T t = new T();
        while (find(t.number) != null) {
            t.number++;
        }
        t.due = clock + delay;
        t.group = group;
        t.sort = sort;
        t.period = period;
        t.times = times;
        t.arrival = set++;
        timers.add(t);
        lay(t);
        return t.number;
    }

    int cancels(int timer) {
        T t = find(timer);
        if (t == null) {
            return -1;
        }
        takeOut(t);
        timers.remove(t);
        cancelled++;
        return timers.size();
    }

    int cancelsAll(int group) {
        if (badGroup(group)) {
            return -1;
        }
        List<T> gone = ofGroup(group);
        for (T t : gone) {
            cancels(t.number);
        }
        return gone.size();
    }

    int steady(int timer, boolean is) {
        T t = find(timer);
        if (t == null) {
            return -1;
        }
        if (t.steady == is) {
            return -2;
        }
        t.steady = is;
        return is ? 0 : 1;
    }

    int pauses(int timer) {
        T t = find(timer);
        if (t == null) {
            return -1;
        }
        if (t.paused) {
            return -2;
        }
        takeOut(t);
        t.paused = true;
        t.rest = t.due - clock;
        return t.rest;
    }

    int resumes(int timer) {
        T t = find(timer);
        if (t == null) {
            return -1;
        }
        if (!t.paused) {
            return -2;
        }
        t.paused = false;
        t.due = clock + t.rest;
        lay(t);
        return t.due;
    }

    int holds(int group) {
        if (badGroup(group)) {
            return -1;
        }
        int n = 0;
        for (T t : ofGroup(group)) {
            n += pauses(t.number) >= 0 ? 1 : 0;
        }
        return n;
    }

    int goesOn(int group) {
        if (badGroup(group)) {
            return -1;
        }
        int n = 0;
        for (T t : ofGroup(group)) {
            n += resumes(t.number) >= 0 ? 1 : 0;
        }
        return n;
    }

    int spreads(int group, int gap) {
        if (badGroup(group) || gap < 0 || gap > 1000) {
            return -1;
        }
        List<T> list = ofGroup(group);
        list.removeIf(t -> t.paused);
        if (list.size() < 2) {
            return -2;
        }
        list.sort(dueThenOrder());
        int others = 0;
        for (int i = 0; i < list.size(); i++) {
            T t = list.get(i);
            int due = i == 0 ? t.due : list.get(i - 1).due + gap;
            if (due != t.due) {
                others++;
            }
            t.due = due;
            lay(t);
        }
        tells(list.get(list.size() - 1).due);
        return others;
    }

    int delays(int timer, int delay) {
        T t = find(timer);
        if (t == null || delay < 1 || delay > 1000000) {
            return -1;
        }
        int was = t.paused ? clock + t.rest : t.due;
        if (was == clock + delay) {
            return -2;
        }
        if (t.paused) {
            t.rest = delay;
        } else {
            t.due = clock + delay;
            lay(t);
        }
        tells(clock + delay - was);
        return 0;
    }

    int run() {
        String acts = text;
        text = "";
        int wrong = wrongAt(acts);
        if (wrong >= 0) {
            return -1 - wrong;
        }
        int before = rangAll;
        int done = 0;
        String[] each = acts.isEmpty() ? new String[0] : acts.split(";");
        for (String act : each) {
            if (!does(act)) {
                break;
            }
            done++;
        }
        tells(done < each.length ? 1 : 0, rangAll - before);
        return done;
    }

    private boolean does(String act) {
        String[] n = act.substring(1).split(",");
        int first = Integer.parseInt(n[0]);
        return switch (act.charAt(0)) {
            case 's' -> sets(first, 0, Integer.parseInt(n[1]), n.length > 2 ? Integer.parseInt(n[2]) : 1, 0) >= 0;
            case 't' -> ticks(first) >= 0;
            case 'l' -> leaps(first) >= 0;
            default -> cancels(first) >= 0;
        };
    }

    private static final String NUMBER = "[0-9]{1,4}";
    private static final Pattern ACTS = Pattern.compile(
        "((s" + NUMBER + ",(0|[1-9]," + NUMBER + ")|t[0-9]|l-?" + NUMBER + "|c[0-9]{1,2})(;|\\z))*");
    private static final Pattern NUMBERS = Pattern.compile("(?:^|;)(?:s|t|l-?)([0-9]+)(?:,([0-9]+)(?:,([0-9]+))?)?");
    private static final int[] LEAST = {1, 0, 1};
    private static final int[] MOST = {9999, 3, 1000};

    /** The first place at which no number of digits and no sign could make it right; then numbers that can't be. */
    private static int wrongAt(String acts) {
        if (acts.isEmpty()) {
            return -1;
        }
        int viable = 0;
        while (viable <= acts.length() && isViable(acts.substring(0, viable))) {
            viable++;
        }
        int wrong = viable <= acts.length() ? viable - 1 : isWhole(acts) ? -1 : acts.length();
        int number = wrongNumber(acts, wrong < 0 ? acts.length() : wrong);
        return number >= 0 ? number : wrong;
    }

    private static boolean isViable(String start) {
        Matcher m = ACTS.matcher(start);
        return m.matches() || m.hitEnd();
    }

    private static boolean isWhole(String acts) {
        return ACTS.matcher(acts).matches() && !acts.endsWith(";");
    }

    /** Of the numbers that end ahead of a place (and are not cut short by a digit too many there). */
    private static int wrongNumber(String acts, int till) {
        Matcher m = NUMBERS.matcher(acts);
        while (m.find()) {
            for (int i = 0; i < 3 && m.group(i + 1) != null; i++) {
                if (m.end(i + 1) > till) {
                    return -1;
                }
                int v = Integer.parseInt(m.group(i + 1));
                if (v < LEAST[i] || v > MOST[i]) {
                    return m.end(i + 1) - 1;
                }
            }
        }
        return -1;
    }

    int sign(int v) {
        if (text.length() + 4 > 100) {
            return -1;
        }
        text += "" + (char) (v >>> 24) + (char) (v >>> 16 & 255) + (char) (v >>> 8 & 255) + (char) (v & 255);
        return text.length();
    }

    boolean end(int n) {
        if (n < 0 || n > text.length()) {
            return false;
        }
        text = text.substring(0, n);
        return true;
    }

    int timer(int timer, int what) {
        T t = find(timer);
        if (t == null) {
            throw new NoSuchElementException();
        }
        return switch (what) {
            case 0 -> t.paused ? clock + t.rest : t.due;
            case 1 -> t.paused ? -2 : level(t);
            case 2 -> t.paused ? -2 : slotOf(t);
            case 3 -> t.arrival;
            case 4 -> t.group;
            case 5 -> t.sort;
            case 6 -> t.period;
            case 7 -> t.times;
            case 8 -> t.rang;
            case 9 -> t.steady ? 1 : 0;
            case 10 -> t.paused ? t.rest : -1;
            default -> throw new NoSuchElementException();
        };
    }

    int slot(int level, int slot) {
        if (level < 0 || level >= sizes.size() || slot < 0 || slot >= sizes.get(level)) {
            return -1;
        }
        List<T> list = new ArrayList<>(wheels.get(level).get(slot));
        list.sort(order());
        rowOf(list);
        return list.size();
    }

    int far() {
        List<T> list = new ArrayList<>(far);
        list.sort(Comparator.<T>comparingInt(t -> t.due).thenComparingInt(t -> t.arrival));
        rowOf(list);
        return list.size();
    }

    int group(int group) {
        if (badGroup(group)) {
            return -1;
        }
        rowOf(ofGroup(group));
        return row.size();
    }

    int full(int level) {
        if (level < 0 || level >= sizes.size()) {
            return -1;
        }
        tells();
        long together = 0;
        for (int i = 0; i < sizes.get(level); i++) {
            int n = wheels.get(level).get(i).size();
            together += n;
            if (n > 0) {
                row.add((long) i);
            }
        }
        row.add(together);
        return row.size() - 1;
    }

    int next() {
        if (running().isEmpty()) {
            return -2;
        }
        Model m = copy();
        List<Rang> told = m.tick();
        while (told.isEmpty()) {
            told = m.tick();
        }
        tells();
        for (Rang r : told) {
            row.add((long) r.timer);
        }
        return m.clock;
    }

    private List<List<Rang>> foreseen(int n) {
        Model m = copy();
        List<List<Rang>> all = new ArrayList<>();
        for (int i = 0; i < n; i++) {
            all.add(m.tick());
        }
        return all;
    }

    int rings(int n) {
        if (badTicks(n) < 0) {
            return badTicks(n);
        }
        tells();
        int all = 0;
        for (List<Rang> told : foreseen(n)) {
            for (Rang r : told) {
                if (all < 20) {
                    row.add((long) r.timer);
                    row.add((long) r.clock);
                }
                all++;
            }
        }
        return all;
    }

    int quiet(int n) {
        if (badTicks(n) < 0) {
            return badTicks(n);
        }
        List<List<Rang>> all = foreseen(n);
        int most = 0;
        int first = 0;
        for (int from = 0; from < n; from++) {
            int to = from;
            while (to < n && all.get(to).isEmpty()) {
                to++;
            }
            if (to - from > most) {
                most = to - from;
                first = clock + 1 + from;
            }
        }
        tells(first);
        return most;
    }

    private List<int[]> movesOf(int timer) {
        Model m = copy();
        int rangBefore = find(timer).rang;
        for (boolean rang = false; !rang; ) {
            for (Rang r : m.tick()) {
                rang |= r.timer == timer && r.rang == rangBefore + 1;
            }
        }
        m.movedLog.removeIf(v -> v[0] != timer);
        return m.movedLog;
    }

    int moves(int timer) {
        T t = find(timer);
        return t == null ? -1 : t.paused ? -2 : movesOf(timer).size();
    }

    /** All other timers are left out of the copy: none takes the place of one that went. */
    private int movesAlone(T t) {
        Model m = new Model();
        m.sizes = sizes;
        m.clock = clock;
        m.empty();
        T c = t.copy();
        m.timers.add(c);
        m.lay(c);
        while (m.tick().isEmpty()) {
            continue;
        }
        return m.movedLog.size();
    }

    int cost(int a, int b, int c, int d) {
        List<Integer> wanted = sizesOf(a, b, c, d);
        if (wanted == null) {
            return -1;
        }
        List<Integer> was = sizes;
        sizes = wanted;
        int all = 0;
        int most = 0;
        int farOnes = 0;
        for (T t : running()) {
            int n = movesAlone(t);
            all += n;
            most = Math.max(most, n);
            farOnes += t.due - clock >= whole() ? 1 : 0;
        }
        sizes = was;
        tells(farOnes, most);
        return all;
    }

    int best(int l) {
        if (l < 1 || l > 4) {
            return -1;
        }
        List<Long> kept = row;
        int best = 0;
        int least = Integer.MAX_VALUE;
        for (int s = 16; s >= 2; s--) {
            int v = cost(s, l > 1 ? s : 0, l > 2 ? s : 0, l > 3 ? s : 0) + l * s;
            if (v <= least) {
                least = v;
                best = s;
            }
        }
        row = kept;
        tells(least);
        return best;
    }

    int ahead(int one, int other) {
        T a = find(one);
        T b = find(other);
        if (a == null || b == null || a == b) {
            return -1;
        }
        if (a.paused || b.paused) {
            return -2;
        }
        Model m = copy();
        while (true) {
            for (Rang r : m.tick()) {
                if (r.timer == one && r.rang == a.rang + 1 || r.timer == other && r.rang == b.rang + 1) {
                    tells(m.clock);
                    return r.timer == one ? 0 : 1;
                }
            }
        }
    }

    int way(int timer) {
        T t = find(timer);
        if (t == null) {
            return -1;
        }
        if (t.paused) {
            return -2;
        }
        List<int[]> moves = movesOf(timer);
        tells(level(t));
        for (int[] v : moves) {
            row.add((long) v[1]);
            row.add((long) v[2]);
        }
        row.add((long) t.due);
        return moves.size();
    }

    int would(int n) {
        if (badLeap(n) < 0) {
            return badLeap(n);
        }
        Model m = copy();
        List<Rang> told = m.leap(n);
        tells();
        for (Rang r : told) {
            row.add((long) r.timer);
            T t = m.find(r.timer);
            row.add(t == null ? -1L : t.due);
        }
        return told.size();
    }

    int busiest(int n) {
        if (badTicks(n) < 0) {
            return badTicks(n);
        }
        List<List<Rang>> all = foreseen(n);
        int most = 0;
        for (List<Rang> told : all) {
            most = Math.max(most, told.size());
        }
        if (most == 0) {
            tells(0, 0);
            return clock;
        }
        int first = -1;
        int such = 0;
        for (int i = 0; i < n; i++) {
            if (all.get(i).size() == most) {
                such++;
                first = first < 0 ? clock + 1 + i : first;
            }
        }
        tells(most, such > 1 ? 1 : 0);
        return first;
    }

    int till(int m) {
        if (m < 1 || m > 100) {
            return -1;
        }
        if (badTicks(100) < 0) {
            return -4;
        }
        Model c = copy();
        int rang = 0;
        for (int i = 0; i < 100; i++) {
            rang += c.tick().size();
            if (rang >= m) {
                tells(rang, c.moved);
                return c.clock;
            }
        }
        return -2;
    }

    int loudest(int n) {
        if (badTicks(n) < 0) {
            return badTicks(n);
        }
        long[] each = new long[8];
        for (List<Rang> told : foreseen(n)) {
            for (Rang r : told) {
                each[r.group]++;
            }
        }
        int loudest = 0;
        for (int g = 7; g >= 0; g--) {
            if (each[g] >= each[loudest]) {
                loudest = g;
            }
        }
        if (each[loudest] == 0) {
            return -2;
        }
        tells(each);
        return loudest;
    }

    int clashes(int n) {
        if (badTicks(n) < 0) {
            return badTicks(n);
        }
        List<List<Rang>> all = foreseen(n);
        all.removeIf(told -> told.size() < 2);
        if (all.isEmpty()) {
            tells(-1, -1, -1);
        } else {
            tells(all.get(0).get(0).clock, all.get(0).get(0).timer, all.get(0).get(1).timer);
        }
        return all.size();
    }

    int rung(int i) {
        if (i < 0 || i >= log.size()) {
            return -1;
        }
        Rang r = log.get(i);
        tells(r.clock, r.due, r.group, r.rang);
        return r.timer;
    }

    int told(int what) {
        int[] all = {rangAll, moved, missed, cancelled, ahead, back, set};
        return what < 0 || what > 6 ? -1 : all[what];
    }

    int count(int what) {
        if (what >= 10 && what <= 13) {
            return what - 10 < sizes.size() ? sizes.get(what - 10) : 0;
        }
        int[] all = {clock, sizes.size(), whole(), timers.size(), timers.size() - running().size(), far.size(), rule,
            log.size(), row.size(), text.length()};
        return what < 0 || what > 9 ? -1 : all[what];
    }

    long row(int i) {
        if (i < 0 || i >= row.size()) {
            throw new NoSuchElementException();
        }
        return row.get(i);
    }
}
