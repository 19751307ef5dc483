import java.util.Arrays;
import java.util.NoSuchElementException;

/** What the tests of the project share: each wrong answer is printed, and counts. */
final class Check {
    private static int wrong;
    private static int looked;
    private static volatile String heading = "";

    /** A call that does not end is wrong too: it must not hold up the tests for ever. */
    private static final int MOST_SECONDS = 600;

    static {
        Thread watch = new Thread(Check::watch);
        watch.setDaemon(true);
        watch.start();
    }

    private Check() {
    }

    private static void watch() {
        try {
            Thread.sleep(1000L * MOST_SECONDS);
        } catch (InterruptedException e) {
            return;
        }
        System.out.println(heading + "did not end in " + MOST_SECONDS + " seconds");
        System.out.flush();
        Runtime.getRuntime().halt(1);
    }

    /** What is printed ahead of each wrong answer from now on. */
    static void under(String name) {
        heading = name.isEmpty() ? "" : name + ": ";
    }

    static int lookedAt() {
        return looked;
    }

    private static void wrong(String what) {
        wrong++;
        System.out.println(heading + what);
    }

    static void is(String what, long got, long want) {
        looked++;
        if (got != want) {
            wrong(what + ": answered " + got + ", due is " + want);
        }
    }

    static void is(String what, boolean got, boolean want) {
        is(what, got ? 1 : 0, want ? 1 : 0);
    }

    static void row(String what, DueWheels x, long... want) {
        looked++;
        long[] got = rowOf(x);
        if (!Arrays.equals(got, want)) {
            wrong(what + ": the row is " + Arrays.toString(got) + ", due is " + Arrays.toString(want));
        }
    }

    static long[] rowOf(DueWheels x) {
        long[] numbers = new long[x.count(8)];
        for (int i = 0; i < numbers.length; i++) {
            numbers[i] = x.row(i);
        }
        return numbers;
    }

    static void noSuch(String what, Runnable call) {
        looked++;
        try {
            call.run();
        } catch (NoSuchElementException e) {
            return;
        }
        wrong(what + ": threw nothing, due is NoSuchElementException");
    }

    static void fails(String what) {
        looked++;
        wrong(what);
    }

    /** Puts a text into an object that has none. */
    static void text(DueWheels x, String text) {
        for (int i = 0; i < text.length(); i += 4) {
            int v = 0;
            for (int k = 0; k < 4; k++) {
                v = v << 8 | (i + k < text.length() ? text.charAt(i + k) : 0);
            }
            x.sign(v);
        }
        if (!x.end(text.length())) {
            fails("the text " + text + " could not be put");
        }
    }

    static void close(String name) {
        System.out.println(name + ": " + looked + " looked at, " + wrong + " wrong");
        if (wrong != 0) {
            System.exit(1);
        }
    }
}
