import java.util.ArrayList;
import java.util.Arrays;
import java.util.List;
import java.util.NoSuchElementException;
import java.util.Random;
import java.util.function.IntToLongFunction;
import java.util.function.IntUnaryOperator;
import java.util.function.LongSupplier;

/** Random runs of calls, the same each time: each answer, the row and all that can be asked are as the model's. */
public final class ModelTest {
    private static final int RUNS = 400;
    private static final int CALLS = 300;
    private static final long THROWN = Long.MIN_VALUE;

    private final Random random;
    private final DueWheels x = new DueWheels();
    private final Model m = new Model();
    private final List<String> calls = new ArrayList<>();
    private final int reach;
    private String call;
    private long got;
    private long want;

    private ModelTest(int seed) {
        random = new Random(seed);
        int[] reaches = {8, 40, 300, 2500};
        reach = reaches[seed % reaches.length];
    }

    public static void main(String[] args) {
        int runs = args.length > 0 ? Integer.parseInt(args[0]) : RUNS;
        for (int seed = 0; seed < runs; seed++) {
            if (!new ModelTest(seed).passes()) {
                Check.fails("run " + seed + " fails");
                break;
            }
            Check.is("run " + seed, 0, 0);
        }
        Check.close("ModelTest");
    }

    private boolean passes() {
        for (int i = 0; i < CALLS; i++) {
            call = "";
            doOne();
            calls.add(call);
            long[] state = state(x::count, x::told, x::row, x::timer);
            long[] due = state(m::count, m::told, m::row, m::timer);
            if (got != want || !Arrays.equals(state, due)) {
                System.out.println(String.join("; ", calls));
                System.out.println(call + " answered " + got + ", due is " + want);
                System.out.println("the states differ at " + Arrays.mismatch(state, due) + " (as state() asks)");
                return false;
            }
        }
        return true;
    }

    private int upTo(int n) {
        return random.nextInt(n);
    }

    /** Mostly within, at times just outside, seldom far outside. */
    private int about(int least, int most) {
        int dice = upTo(40);
        if (dice == 0) {
            return least - 1;
        }
        if (dice == 1) {
            return most + 1;
        }
        if (dice == 2) {
            int[] wild = {Integer.MIN_VALUE, Integer.MAX_VALUE, -1, 0};
            return wild[upTo(4)];
        }
        return dice == 3 ? least : dice == 4 ? most : least + upTo(most - least + 1);
    }

    private int size() {
        return upTo(12) == 0 ? about(2, 16) : 2 + upTo(upTo(2) == 0 ? 3 : 15);
    }

    private int[] sizes() {
        int n = 1 + upTo(4);
        int[] v = new int[4];
        for (int i = 0; i < n; i++) {
            v[i] = size();
        }
        if (upTo(15) == 0) {
            v[upTo(4)] = upTo(5);
        }
        return v;
    }

    private int timer() {
        for (int i = 0; i < 6; i++) {
            int t = upTo(16);
            if (hasTimer(t)) {
                return t;
            }
        }
        return about(0, 15);
    }

    private boolean hasTimer(int t) {
        try {
            m.timer(t, 3);
            return true;
        } catch (NoSuchElementException e) {
            return false;
        }
    }

    private int delay() {
        int dice = upTo(30);
        return dice == 0 ? about(1, 1000000) : dice < 15 ? 1 + upTo(10) : 1 + upTo(reach);
    }

    private int period() {
        return upTo(12) == 0 ? about(1, 1000) : 1 + upTo(upTo(2) == 0 ? 6 : 60);
    }

    private void answer(String said, long mine, long models) {
        call = said;
        got = mine;
        want = models;
    }

    private void doOne() {
        int kind = upTo(62);
        if (kind < 24) {
            change(kind);
        } else if (kind < 28) {
            text();
        } else {
            ask(kind - 28);
        }
    }

    private void change(int kind) {
        int g = about(0, 7);
        switch (kind) {
            case 0 -> {
                int[] v = sizes();
                answer("wheels" + Arrays.toString(v), x.wheels(v[0], v[1], v[2], v[3]), m.wheels(v[0], v[1], v[2], v[3]));
            }
            case 1 -> {
                int v = about(0, 2);
                answer("order " + v, x.order(v), m.order(v));
            }
            case 2, 3, 4 -> {
                int n = upTo(4) == 0 ? about(1, 100) : 1 + upTo(9);
                answer("ticks " + n, x.ticks(n), m.ticks(n));
            }
            case 5, 6 -> {
                int n = upTo(20) == 0 ? about(-1000000, 1000000) : upTo(2 * reach) - reach + upTo(20);
                answer("leaps " + n, x.leaps(n), m.leaps(n));
            }
            case 7 -> {
                int t = timer();
                answer("cancels " + t, x.cancels(t), m.cancels(t));
            }
            case 8 -> {
                if (upTo(4) == 0) {
                    answer("cancelsAll " + g, x.cancelsAll(g), m.cancelsAll(g));
                } else {
                    int t = timer();
                    boolean is = upTo(3) > 0;
                    answer("steady " + t + is, x.steady(t, is), m.steady(t, is));
                }
            }
            case 9 -> {
                int t = timer();
                answer("pauses " + t, x.pauses(t), m.pauses(t));
            }
            case 10, 11 -> {
                int t = timer();
                answer("resumes " + t, x.resumes(t), m.resumes(t));
            }
            case 12 -> answer("holds " + g, x.holds(g), m.holds(g));
            case 13, 14 -> answer("goesOn " + g, x.goesOn(g), m.goesOn(g));
            case 15 -> {
                int gap = upTo(4) == 0 ? about(0, 1000) : upTo(30);
                answer("spreads " + g + "," + gap, x.spreads(g, gap), m.spreads(g, gap));
            }
            case 16, 17 -> {
                int t = timer();
                int d = delay();
                answer("delays " + t + "," + d, x.delays(t, d), m.delays(t, d));
            }
            default -> {
                int d = delay();
                int s = about(0, 3);
                int p = period();
                int n = upTo(3) == 0 ? about(0, 99) : upTo(4);
                answer("sets " + d + "," + g + "," + s + "," + p + "," + n, x.sets(d, g, s, p, n), m.sets(d, g, s, p, n));
            }
        }
    }

    private String number(int digits) {
        StringBuilder b = new StringBuilder();
        int n = 1 + upTo(upTo(20) == 0 ? digits + 2 : digits);
        for (int i = 0; i < n; i++) {
            b.append((char) ('0' + upTo(upTo(4) == 0 ? 2 : 10)));
        }
        return b.toString();
    }

    private String act() {
        switch (upTo(5)) {
            case 0:
                return "t" + (upTo(8) == 0 ? number(1) : "" + (1 + upTo(9)));
            case 1:
                return "l" + (upTo(2) == 0 ? "-" : "") + number(upTo(2) == 0 ? 1 : 4);
            case 2:
                return "c" + number(2);
            default:
                String s = "s" + (upTo(5) == 0 ? number(4) : "" + (1 + upTo(30))) + "," + upTo(upTo(20) == 0 ? 50 : 4);
                return s.endsWith("0") && upTo(20) > 0 ? s
                    : s + "," + (upTo(4) == 0 ? number(4) : "" + (1 + upTo(20)));
        }
    }

    private void text() {
        StringBuilder b = new StringBuilder();
        int n = upTo(7);
        for (int i = 0; i < n; i++) {
            b.append(i == 0 ? "" : ";").append(act());
        }
        if (upTo(5) == 0 && b.length() > 0) {
            String signs = "0123456789stlc,;-;, x";
            char c = upTo(10) == 0 ? (char) upTo(256) : signs.charAt(upTo(signs.length()));
            int at = upTo(b.length());
            switch (upTo(3)) {
                case 0 -> b.setCharAt(at, c);
                case 1 -> b.insert(at, c);
                default -> b.deleteCharAt(at);
            }
        }
        if (upTo(12) == 0) {
            b.append(';');
        }
        String t = b.toString();
        x.end(0);
        m.end(0);
        for (int i = 0; i < t.length(); i += 4) {
            int v = 0;
            for (int k = 0; k < 4; k++) {
                v = v << 8 | (i + k < t.length() ? t.charAt(i + k) : upTo(256));
            }
            Check.is("sign", x.sign(v), m.sign(v));
        }
        Check.is("end", x.end(t.length()), m.end(t.length()));
        if (upTo(10) == 0) {
            int e = about(0, 100);
            Check.is("end", x.end(e), m.end(e));
        }
        answer("run \"" + t + "\"", x.run(), m.run());
    }

    private void ask(int kind) {
        int n = upTo(3) == 0 ? about(1, 100) : 1 + upTo(30);
        int t = kind % 17 >= 8 && kind % 17 <= 11 ? timer() : 0;
        boolean isNear = m.farthest() <= 6000;
        switch (kind % 17) {
            case 0 -> answer("rings " + n, x.rings(n), m.rings(n));
            case 1 -> answer("quiet " + n, x.quiet(n), m.quiet(n));
            case 2 -> answer("busiest " + n, x.busiest(n), m.busiest(n));
            case 3 -> answer("till " + n, x.till(n), m.till(n));
            case 4 -> answer("loudest " + n, x.loudest(n), m.loudest(n));
            case 5 -> answer("clashes " + n, x.clashes(n), m.clashes(n));
            case 6 -> {
                int i = about(0, 39);
                answer("rung " + i, x.rung(i), m.rung(i));
            }
            case 7 -> {
                int i = upTo(20) == 0 ? about(-1000000, 1000000) : upTo(2 * reach) - reach / 2;
                answer("would " + i, x.would(i), m.would(i));
            }
            case 8 -> {
                if (isNear) {
                    answer("moves " + t, x.moves(t), m.moves(t));
                }
            }
            case 9 -> {
                if (isNear) {
                    answer("way " + t, x.way(t), m.way(t));
                }
            }
            case 10, 11 -> {
                int other = timer();
                if (isNear) {
                    answer("ahead " + t + "," + other, x.ahead(t, other), m.ahead(t, other));
                }
            }
            case 12 -> {
                int[] v = sizes();
                if (isNear) {
                    answer("cost" + Arrays.toString(v), x.cost(v[0], v[1], v[2], v[3]), m.cost(v[0], v[1], v[2], v[3]));
                }
            }
            case 13 -> {
                int l = about(1, 4);
                if (isNear && upTo(3) == 0) {
                    answer("best " + l, x.best(l), m.best(l));
                }
            }
            case 14 -> {
                int level = about(0, 3);
                int slot = about(0, 5);
                answer("slot " + level + "," + slot, x.slot(level, slot), m.slot(level, slot));
            }
            case 15 -> {
                int level = about(0, 3);
                answer("full " + level, x.full(level), m.full(level));
            }
            default -> {
                if (upTo(2) == 0) {
                    answer("far", x.far(), m.far());
                } else if (isNear) {
                    answer("next", x.next(), m.next());
                }
            }
        }
    }

    private static long[] state(IntUnaryOperator count, IntUnaryOperator told, IntToLongFunction row, Asked timer) {
        List<Long> all = new ArrayList<>();
        for (int what = -1; what <= 14; what++) {
            all.add((long) count.applyAsInt(what));
        }
        for (int what = -1; what <= 7; what++) {
            all.add((long) told.applyAsInt(what));
        }
        for (int i = -1; i <= count.applyAsInt(8); i++) {
            int at = i;
            all.add(answerOf(() -> row.applyAsLong(at)));
        }
        for (int t = -1; t <= 16; t++) {
            for (int what = -1; what <= 11; what++) {
                int number = t;
                int asked = what;
                all.add(answerOf(() -> timer.answer(number, asked)));
            }
        }
        return all.stream().mapToLong(Long::longValue).toArray();
    }

    private static long answerOf(LongSupplier call) {
        try {
            return call.getAsLong();
        } catch (NoSuchElementException e) {
            return THROWN;
        }
    }

    private interface Asked {
        int answer(int timer, int what);
    }
}
