import java.util.Arrays;
import java.util.NoSuchElementException;
import java.util.Random;

/**
 * Any arguments in any state: no call throws but timer() and row(), and these NoSuchElementException alone;
 * questions change nothing but the row; what is refused leaves the row.
 */
public final class AnyCallTest {
    private static final int[] WILD = {Integer.MIN_VALUE, Integer.MIN_VALUE + 1, -1000001, -1000000, -1001, -100, -17,
        -2, -1, 0, 1, 2, 3, 4, 5, 7, 8, 9, 10, 11, 13, 14, 15, 16, 17, 39, 40, 99, 100, 101, 1000, 1001, 999999,
        1000000, 1000001, 1000000000, 1000000001, Integer.MAX_VALUE - 1, Integer.MAX_VALUE};
    private static final int CHANGES = 18;
    private static final int QUESTIONS = 19;

    private final Random random;
    private final DueWheels x = new DueWheels();

    private AnyCallTest(int seed) {
        random = new Random(seed);
    }

    public static void main(String[] args) {
        for (int seed = 0; seed < 60; seed++) {
            new AnyCallTest(seed).goes(seed % 20 == 0 ? 20000 : 512);
        }
        Check.close("AnyCallTest");
    }

    private void goes(int calls) {
        for (int i = 0; i < calls; i++) {
            int kind = random.nextInt(CHANGES + QUESTIONS);
            long[] before = state();
            long[] row = Check.rowOf(x);
            int answer;
            try {
                answer = kind < CHANGES ? change(kind) : ask(kind - CHANGES);
            } catch (NoSuchElementException e) {
                Check.is("call " + kind + " may throw", kind == CHANGES, true);
                answer = -1;
            } catch (RuntimeException e) {
                Check.fails("call " + kind + " threw " + e);
                return;
            }
            if (answer < 0) {
                Check.is("the row stays, call " + kind, Arrays.equals(row, Check.rowOf(x)), true);
            }
            if (answer < 0 && kind != 16 || kind >= CHANGES) {
                Check.is("nothing is changed, call " + kind, Arrays.equals(before, state()), true);
            }
        }
    }

    private int any() {
        return random.nextInt(4) == 0 ? WILD[random.nextInt(WILD.length)] : random.nextInt(random.nextInt(2) == 0 ? 17 : 120);
    }

    private int change(int kind) {
        switch (kind) {
            case 0: return x.wheels(any(), any(), any(), any());
            case 1: return x.order(any());
            case 2: return x.ticks(any());
            case 3: return x.leaps(any());
            case 4: return x.leaps(random.nextInt(2000001) - 1000000);
            case 5: return x.cancels(any());
            case 6: return x.cancelsAll(any());
            case 7: return x.steady(any(), random.nextBoolean());
            case 8: return x.pauses(any());
            case 9: return x.resumes(any());
            case 10: return x.holds(any());
            case 11: return x.goesOn(any());
            case 12: return x.spreads(any(), any());
            case 13: return x.delays(any(), any());
            case 14: return x.sign(random.nextInt());
            case 15: return x.end(any()) ? 0 : -1;
            case 16: return runs();
            default: return x.sets(any(), any() % 9, any() % 5, any(), any());
        }
    }

    private int runs() {
        String signs = "stlc,;-0123459";
        if (random.nextInt(3) > 0) {
            x.end(0);
            int n = random.nextInt(26);
            for (int i = 0; i < n; i++) {
                int v = 0;
                for (int k = 0; k < 4; k++) {
                    v = v << 8 | signs.charAt(random.nextInt(signs.length()));
                }
                x.sign(v);
            }
        }
        int answer = x.run();
        Check.is("the text is empty", x.count(9), 0);
        return answer;
    }

    private int ask(int kind) {
        switch (kind) {
            case 0: return x.timer(any(), any());
            case 1: return x.slot(any(), any());
            case 2: return x.far();
            case 3: return x.group(any());
            case 4: return x.full(any());
            case 5: return x.next();
            case 6: return x.rings(any());
            case 7: return x.quiet(any());
            case 8: return x.moves(any());
            case 9: return x.cost(any(), any(), any(), any());
            case 10: return x.best(any());
            case 11: return x.ahead(any(), any());
            case 12: return x.way(any());
            case 13: return x.would(any());
            case 14: return x.busiest(any());
            case 15: return x.till(any());
            case 16: return x.loudest(any());
            case 17: return x.clashes(any());
            default: return x.rung(any()) & x.told(any()) & x.count(any());
        }
    }

    /** All that can be asked, but for the row. */
    private long[] state() {
        long[] all = new long[30 + 16 * 11];
        int n = 0;
        for (int what = 0; what <= 13; what++) {
            all[n++] = what == 8 ? 0 : x.count(what);
        }
        for (int what = 0; what <= 6; what++) {
            all[n++] = x.told(what);
        }
        for (int t = 0; t < 16; t++) {
            for (int what = 0; what <= 10; what++) {
                all[n++] = asked(t, what);
            }
        }
        return all;
    }

    private long asked(int t, int what) {
        try {
            return x.timer(t, what);
        } catch (NoSuchElementException e) {
            return Long.MIN_VALUE;
        }
    }
}
