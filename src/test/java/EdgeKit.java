import java.util.ArrayList;
import java.util.Arrays;
import java.util.List;
import java.util.NoSuchElementException;
import java.util.function.IntFunction;
import java.util.function.Supplier;

/** What the tests of edges share: objects to begin with, and what is looked at. */
abstract class EdgeKit {
    static final int NONE = DueWheels.NONE;
    static final int LAST_CLOCK = 1000000000;
    /** No timer of busy(): below, the first that is free, the last, above. */
    static final int[] NO_TIMERS = {-1, 6, 15, 16, Integer.MIN_VALUE, Integer.MAX_VALUE};
    /** No group of any object. */
    static final int[] NO_GROUPS = {-1, 8, 16, Integer.MIN_VALUE, Integer.MAX_VALUE};
    static final int[] NO_DELAYS = {0, -1, 1000001, Integer.MIN_VALUE, Integer.MAX_VALUE};
    static final int[] NO_TICKS = {0, -1, 101, Integer.MIN_VALUE, Integer.MAX_VALUE};

    interface Call {
        long of(DueWheels x);
    }

    // ---- objects to begin with

    /** Timers in LEVELS 0 to 2, far, paused (5) and steady (4); a log, a text, and a row of 3, 4, 5. */
    static DueWheels busy() {
        DueWheels x = new DueWheels();
        x.sets(2, 1, 1, 3, 0);
        x.sets(5, 2, 2, 7, 9);
        x.sets(30, 2, 0, 1, 0);
        x.sets(90, 3, 3, 10, 3);
        x.sets(40, 3, 0, 1, 1);
        x.sets(12, 3, 1, 4, 0);
        x.ticks(6);
        x.pauses(5);
        x.steady(4, true);
        Check.text(x, "t1;c2");
        x.group(3);
        return x;
    }

    /** One timer with this delay, SORT 0, GROUP 0. */
    static DueWheels one(int delay) {
        DueWheels x = new DueWheels();
        x.sets(delay, 0, 0, 1, 0);
        return x;
    }

    /** Timers 0, 1, .. of SORT 0 and GROUP 0 with these delays. */
    static DueWheels some(int... delays) {
        DueWheels x = new DueWheels();
        for (int delay : delays) {
            x.sets(delay, 0, 0, 1, 0);
        }
        return x;
    }

    /** As many as there can be: delays 101 to 116, GROUPS 0 to 7 twice; the row is 7, 15. */
    static DueWheels sixteen() {
        DueWheels x = new DueWheels();
        for (int i = 0; i < 16; i++) {
            x.sets(101 + i, i % 8, 0, 1, 0);
        }
        x.group(7);
        return x;
    }

    /** One timer that rings at each TICK. */
    static DueWheels ticking() {
        DueWheels x = new DueWheels();
        x.sets(1, 0, 1, 1, 0);
        return x;
    }

    /**
     * So many TICKS ahead of the last CLOCK, with a timer that rings at each, and a row of 0. It takes more calls than
     * the document promises anything for; the sentences that tell the clock's end are held all the same.
     */
    static DueWheels nearTheEnd(int left) {
        DueWheels x = new DueWheels();
        for (int i = 0; i < 999; i++) {
            x.leaps(1000000);
        }
        x.leaps(1000000 - left);
        x.sets(1, 0, 1, 1, 0);
        x.group(0);
        return x;
    }

    static DueWheels after(DueWheels x, Call... calls) {
        for (Call call : calls) {
            call.of(x);
        }
        return x;
    }

    static Call ticks(int n) {
        return x -> x.ticks(n);
    }

    static int run(DueWheels x, String text) {
        x.end(0);
        Check.text(x, text);
        return x.run();
    }

    // ---- what is looked at

    static void is(String what, long got, long want) {
        Check.is(what, got, want);
    }

    static void row(String what, DueWheels x, long... want) {
        Check.row(what, x, want);
    }

    /** LEVEL and SLOT of a timer. */
    static void lies(String what, DueWheels x, int timer, int level, int slot) {
        is(what + ", LEVEL", x.timer(timer, 1), level);
        is(what + ", SLOT", x.timer(timer, 2), slot);
    }

    /** Each call answers this, leaves the row, and changes nothing: what is called is then as what is not. */
    static void refused(Supplier<DueWheels> made, long answer, Call... calls) {
        for (int i = 0; i < calls.length; i++) {
            DueWheels called = made.get();
            DueWheels left = made.get();
            is("call " + i, calls[i].of(called), answer);
            row("call " + i + " leaves the row", called, Check.rowOf(left));
            same("call " + i + " changes nothing", called, left);
        }
    }

    /** On busy() the call with each of these arguments is refused. */
    static void noneEach(int[] arguments, IntFunction<Call> call) {
        for (int argument : arguments) {
            refused(EdgeKit::busy, NONE, call.apply(argument));
        }
    }

    /** A question answers this with this row, whatever the row was before, and changes nothing else. */
    static void asked(Supplier<DueWheels> made, Call question, long answer, long... row) {
        DueWheels called = made.get();
        is("answer", question.of(called), answer);
        row("row", called, row);
        called.group(0);
        called.full(0);
        is("answer behind another question", question.of(called), answer);
        row("row behind another question", called, row);
        is("answer behind itself", question.of(called), answer);
        row("row behind itself", called, row);
        same("a question changes nothing", called, made.get());
    }

    /** Each call throws NoSuchElementException, and changes nothing. */
    static void noSuch(Supplier<DueWheels> made, Call... calls) {
        for (int i = 0; i < calls.length; i++) {
            DueWheels called = made.get();
            DueWheels left = made.get();
            Call call = calls[i];
            Check.noSuch("call " + i, () -> call.of(called));
            row("call " + i + " leaves the row", called, Check.rowOf(left));
            same("call " + i + " changes nothing", called, left);
        }
    }

    /** All that two objects tell of themselves, and do from now on, but for the row. */
    static void same(String what, DueWheels one, DueWheels other) {
        long[] a = all(one);
        long[] b = all(other);
        int i = Arrays.mismatch(a, b);
        Check.is(what + (i < 0 ? "" : ", number " + i + " of all that it tells"), i < 0, true);
    }

    private static long[] all(DueWheels x) {
        List<Long> told = new ArrayList<>();
        for (int what = 0; what <= 13; what++) {
            told.add(what == 8 ? 0L : x.count(what));
        }
        for (int what = 0; what <= 6; what++) {
            told.add((long) x.told(what));
        }
        for (int t = 0; t < 16; t++) {
            for (int what = 0; what <= 10; what++) {
                told.add(of(x, t, what));
            }
            add(told, x, x.way(t));
        }
        for (int i = 0; i < 40; i++) {
            add(told, x, x.rung(i));
        }
        for (int level = 0; level < 4; level++) {
            add(told, x, x.full(level));
        }
        add(told, x, x.far());
        add(told, x, x.next());
        add(told, x, x.run());
        add(told, x, x.ticks(100));
        add(told, x, x.leaps(500));
        add(told, x, x.ticks(1));
        return told.stream().mapToLong(Long::longValue).toArray();
    }

    private static void add(List<Long> told, DueWheels x, long answer) {
        told.add(answer);
        if (answer >= 0) {
            for (long number : Check.rowOf(x)) {
                told.add(number);
            }
        }
    }

    private static long of(DueWheels x, int timer, int what) {
        try {
            return x.timer(timer, what);
        } catch (NoSuchElementException e) {
            return Long.MIN_VALUE;
        }
    }
}
