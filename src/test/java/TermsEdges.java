/** Edges that the document's terms name: wheels, laying, a TICK, ringing, a LEAP, what is refused. */
final class TermsEdges extends EdgeKit {
    private static final int TERMS = Edges.TERMS;

    private TermsEdges() {
    }

    static void tell(Edges e) {
        tellWheels(e);
        tellTimers(e);
        tellLaying(e);
        tellTick(e);
        tellOrder(e);
        tellRinging(e);
        tellLeap(e);
        tellPaused(e);
        tellRow(e);
    }

    private static void tellWheels(Edges e) {
        e.edge(TERMS, "LEVELS 0 .. L less 1, L 1 .. 4 (3 at first)", () -> {
            DueWheels x = new DueWheels();
            is("at first", x.count(1), 3);
            is("LEVEL 2 at first", x.full(2), 0);
            is("no LEVEL 3 at first", x.full(3), NONE);
            is("one", x.wheels(2, 0, 0, 0), 1);
            is("LEVEL 0 of one", x.full(0), 0);
            is("no LEVEL 1 of one", x.full(1), NONE);
            is("four", x.wheels(2, 2, 2, 2), 4);
            is("LEVEL 3 of four", x.full(3), 0);
            is("no LEVEL 4 of four", x.full(4), NONE);
        });
        e.edge(TERMS, "each a wheel of SIZE 2 .. 16 SLOTS (4 each at first)", () -> {
            DueWheels x = new DueWheels();
            for (int k = 0; k < 3; k++) {
                is("SIZE " + k + " at first", x.count(10 + k), 4);
                is("SLOT 3 at first", x.slot(k, 3), 0);
                is("no SLOT 4 at first", x.slot(k, 4), NONE);
            }
            x.wheels(2, 16, 0, 0);
            is("SLOT 1 of 2", x.slot(0, 1), 0);
            is("no SLOT 2 of 2", x.slot(0, 2), NONE);
            is("SLOT 15 of 16", x.slot(1, 15), 0);
            is("no SLOT 16 of 16", x.slot(1, 16), NONE);
        });
        e.edge(TERMS, "SPAN of LEVEL k: SIZES of all LEVELS below it, multiplied (LEVEL 0: 1).", () -> {
            DueWheels x = some(2, 14, 104, 209);
            x.wheels(3, 5, 7, 2);
            lies("SPAN 1", x, 0, 0, 2);
            lies("SPAN 3", x, 1, 1, 14 / 3);
            lies("SPAN 15", x, 2, 2, 104 / 15);
            lies("SPAN 105", x, 3, 3, 209 / 105);
        });
        e.edge(TERMS, "WHOLE: SIZES of all, multiplied.", () -> {
            DueWheels x = new DueWheels();
            is("of three", x.count(2), 64);
            x.wheels(2, 0, 0, 0);
            is("the least", x.count(2), 2);
            x.wheels(3, 5, 7, 2);
            is("of four", x.count(2), 210);
            x.wheels(16, 16, 16, 16);
            is("the greatest", x.count(2), 65536);
        });
        e.edge(TERMS, "CLOCK 0 .. 1000000000 (0 at first).", () -> {
            DueWheels x = new DueWheels();
            is("at first", x.count(0), 0);
            is("none below 0", x.leaps(-1), -4);
            DueWheels y = nearTheEnd(1);
            is("up to the last", y.ticks(1), 1);
            is("the last", y.count(0), LAST_CLOCK);
            is("none above", y.ticks(1), -4);
            is("it stays", y.count(0), LAST_CLOCK);
        });
    }

    private static void tellTimers(Edges e) {
        e.edge(TERMS, "TIMERS 0 .. 15, each set one has the least number that is free", () -> {
            DueWheels x = new DueWheels();
            for (int i = 0; i < 16; i++) {
                is("one behind another", x.sets(i == 9 ? 1 : 50, 0, 0, 1, 0), i);
            }
            x.cancels(12);
            x.cancels(4);
            x.ticks(1);
            is("4 is the least", x.sets(50, 0, 0, 1, 0), 4);
            is("9 rang and is free", x.sets(50, 0, 0, 1, 0), 9);
            is("12 at last", x.sets(50, 0, 0, 1, 0), 12);
            is("no more", x.sets(50, 0, 0, 1, 0), -3);
        });
        e.edge(TERMS, "ARRIVAL (how many were set ahead of it since all began)", () -> {
            DueWheels x = some(5, 6, 7);
            is("of the first", x.timer(0, 3), 0);
            is("of the third", x.timer(2, 3), 2);
            x.cancels(0);
            x.sets(0, 0, 0, 1, 0);
            x.sets(8, 0, 0, 1, 0);
            is("those that are gone count, refused ones do not", x.timer(0, 3), 3);
            x.ticks(6);
            x.leaps(-6);
            x.sets(8, 0, 0, 1, 0);
            is("those that rang count", x.timer(1, 3), 4);
        });
        e.edge(TERMS, "GROUP 0 .. 7, SORT 0 .. 3, PERIOD 1 .. 1000", () -> {
            DueWheels x = new DueWheels();
            is("the least of each", x.sets(5, 0, 0, 1, 0), 0);
            is("the greatest of each", x.sets(5, 7, 3, 1000, 0), 1);
            int[][] told = {{4, 0, 7}, {5, 0, 3}, {6, 1, 1000}};
            for (int[] what : told) {
                is("least, what " + what[0], x.timer(0, what[0]), what[1]);
                is("greatest, what " + what[0], x.timer(1, what[0]), what[2]);
            }
            refused(EdgeKit::busy, NONE, y -> y.sets(5, -1, 0, 1, 0), y -> y.sets(5, 8, 0, 1, 0),
                y -> y.sets(5, 0, -1, 1, 0), y -> y.sets(5, 0, 4, 1, 0), y -> y.sets(5, 0, 3, 0, 0),
                y -> y.sets(5, 0, 3, 1001, 0));
            x.ticks(5);
            is("PERIOD stays 1000 as it is doubled", x.timer(1, 6), 1000);
        });
        e.edge(TERMS, "TIMES (how often it rings yet; 0: without end)", () -> {
            DueWheels x = new DueWheels();
            x.sets(1, 0, 1, 1, 0);
            x.sets(1, 1, 1, 1, 1);
            x.sets(1, 2, 1, 1, 2);
            x.sets(1, 3, 1, 1, 99);
            is("rings in 100 TICKS", x.ticks(100), 100 + 1 + 2 + 99);
            is("one is left", x.count(3), 1);
            is("TIMES 0 stays 0", x.timer(0, 7), 0);
        });
        e.edge(TERMS, "whether it is STEADY (at first not), whether it is PAUSED (at first not), RANG (how often it did)",
            () -> {
                DueWheels x = new DueWheels();
                x.sets(1, 0, 1, 1, 0);
                x.ticks(3);
                x.steady(0, true);
                x.pauses(0);
                is("RANG", x.timer(0, 8), 3);
                x.cancels(0);
                is("its number is had again", x.sets(9, 0, 1, 1, 0), 0);
                is("not STEADY", x.timer(0, 9), 0);
                is("not PAUSED", x.timer(0, 10), NONE);
                lies("it lies in a wheel", x, 0, 1, 12 / 4 % 4);
                is("RANG 0", x.timer(0, 8), 0);
            });
    }

    private static void tellLaying(Edges e) {
        e.edge(TERMS, "TO LAY a TIMER: D is DUE less CLOCK.", () -> {
            DueWheels x = after(new DueWheels(), y -> y.leaps(61));
            x.sets(3, 0, 0, 1, 0);
            x.sets(4, 0, 0, 1, 0);
            x.sets(63, 0, 0, 1, 0);
            x.sets(64, 0, 0, 1, 0);
            lies("DUE 64, D 3", x, 0, 0, 0);
            lies("DUE 65, D 4", x, 1, 1, 0);
            lies("DUE 124, D 63", x, 2, 2, 3);
            lies("DUE 125, D 64", x, 3, NONE, NONE);
        });
        e.edge(TERMS, "The lowest LEVEL k of which SIZE times SPAN is more than D", () -> {
            DueWheels x = some(1, 3, 4, 15, 16, 63);
            lies("D 1", x, 0, 0, 1);
            lies("D 3", x, 1, 0, 3);
            lies("D 4", x, 2, 1, 1);
            lies("D 15", x, 3, 1, 3);
            lies("D 16", x, 4, 2, 1);
            lies("D 63", x, 5, 2, 3);
            DueWheels y = after(new DueWheels(), ticks(2));
            y.sets(3, 0, 0, 1, 0);
            y.sets(4, 0, 0, 1, 0);
            is("D from CLOCK", y.timer(0, 1), 0);
            is("D 4 from CLOCK", y.timer(1, 1), 1);
        });
        e.edge(TERMS, "there SLOT DUE by SPAN (cut) modulo SIZE", () -> {
            DueWheels x = after(new DueWheels(), ticks(2));
            x.sets(1, 0, 0, 1, 0);
            x.sets(2, 0, 0, 1, 0);
            x.sets(3, 0, 0, 1, 0);
            x.sets(13, 0, 0, 1, 0);
            x.sets(14, 0, 0, 1, 0);
            x.sets(61, 0, 0, 1, 0);
            x.sets(62, 0, 0, 1, 0);
            lies("DUE 3, the last SLOT", x, 0, 0, 3);
            lies("DUE 4, round to SLOT 0", x, 1, 0, 0);
            lies("DUE 5", x, 2, 0, 1);
            lies("DUE 15, cut", x, 3, 1, 3);
            lies("DUE 16, round to SLOT 0, where CLOCK is", x, 4, 1, 0);
            lies("DUE 63, cut", x, 5, 2, 3);
            lies("DUE 64, round to SLOT 0, where CLOCK is", x, 6, 2, 0);
            is("it is not taken for this round", x.ticks(13), 4);
            is("but at its own time", x.ticks(1), 1);
            row("DUE 16", x, 4, 16);
        });
        e.edge(TERMS, "If there is none, it is FAR.", () -> {
            DueWheels x = some(63, 64, 1000000);
            lies("D 63", x, 0, 2, 3);
            lies("D 64", x, 1, NONE, NONE);
            lies("D 1000000", x, 2, NONE, NONE);
            DueWheels y = some(65535, 65536);
            y.wheels(16, 16, 16, 16);
            lies("D 65535", y, 0, 3, 15);
            lies("D 65536", y, 1, NONE, NONE);
            y.wheels(2, 0, 0, 0);
            y.sets(1, 0, 0, 1, 0);
            y.sets(2, 0, 0, 1, 0);
            lies("D 1 of WHOLE 2", y, 2, 0, 1);
            lies("D 2 of WHOLE 2", y, 3, NONE, NONE);
        });
        e.edge(TERMS, "There it stays till it is LAID anew.", () -> {
            DueWheels x = some(31, 79);
            x.ticks(15);
            lies("D 16", x, 0, 2, 1);
            DueWheels y = some(16, 79);
            y.ticks(15);
            lies("D 1, on LEVEL 2 still", y, 0, 2, 1);
            y.ticks(48);
            lies("D 16, far still", y, 1, NONE, NONE);
            is("not MOVED", y.told(1), 1);
            y.wheels(4, 4, 4, 2);
            lies("laid anew", y, 1, 2, 79 / 16 % 4);
        });
    }

    private static void tellTick(Edges e) {
        e.edge(TERMS, "A TICK: CLOCK is 1 more.", () -> {
            DueWheels x = new DueWheels();
            x.ticks(1);
            is("one", x.count(0), 1);
            x.ticks(100);
            is("a hundred more", x.count(0), 101);
        });
        e.edge(TERMS, "If CLOCK is a multiple of WHOLE, all that are FAR and of which D is below WHOLE are LAID.", () -> {
            DueWheels x = some(127, 128, 100, 64);
            x.ticks(63);
            is("none is LAID at 63", x.far(), 4);
            is("64 RINGS as it is LAID", x.ticks(1), 1);
            lies("D 63", x, 0, 2, 127 / 16 % 4);
            lies("D 64", x, 1, NONE, NONE);
            lies("D 36", x, 2, 2, 100 / 16 % 4);
            is("MOVED", x.told(1), 3);
            x.ticks(63);
            lies("D 1, not at 127", x, 1, NONE, NONE);
            is("128 RINGS as it is LAID", x.ticks(1), 1);
        });
        e.edge(TERMS, "Then, from the highest LEVEL down to LEVEL 1, if CLOCK is a multiple of its SPAN, all TIMERS in "
            + "its SLOT CLOCK by SPAN modulo SIZE are LAID anew.", () -> {
                DueWheels x = some(16, 21, 31, 32, 5);
                x.ticks(3);
                lies("LEVEL 1 at 3", x, 4, 1, 1);
                x.ticks(1);
                lies("LEVEL 1 turns at 4", x, 4, 0, 1);
                x.ticks(11);
                lies("LEVEL 2 at 15", x, 1, 2, 1);
                is("16 comes down and RINGS", x.ticks(1), 1);
                lies("D 5", x, 1, 1, 1);
                lies("D 15", x, 2, 1, 3);
                lies("another SLOT stays", x, 3, 2, 2);
                x.ticks(4);
                lies("LEVEL 1 at 20", x, 1, 0, 1);
                DueWheels y = after(new DueWheels(), ticks(14));
                y.sets(14, 0, 0, 1, 0);
                y.sets(3, 0, 0, 1, 0);
                y.sets(50, 0, 0, 1, 0);
                lies("28 is in SLOT 3, where CLOCK is", y, 0, 1, 3);
                y.ticks(2);
                lies("a SLOT that is not CLOCK's stays at 16", y, 0, 1, 3);
                y.ticks(11);
                lies("till 28", y, 0, 1, 3);
                is("28", y.ticks(1), 1);
                lies("64, once round", y, 2, 2, 0);
                y.ticks(35);
                lies("64, at 63", y, 2, 2, 0);
                is("64", y.ticks(1), 1);
            });
        e.edge(TERMS, "(Each TIMER LAID so is MOVED by it.)", () -> {
            DueWheels x = some(85);
            x.ticks(63);
            is("none yet", x.told(1), 0);
            x.ticks(1);
            is("FAR to LEVEL 2", x.told(1), 1);
            x.ticks(15);
            is("as many at 79", x.told(1), 1);
            x.ticks(1);
            is("LEVEL 2 to 1", x.told(1), 2);
            x.ticks(4);
            is("LEVEL 1 to 0", x.told(1), 3);
            is("RINGS", x.ticks(1), 1);
            is("no more", x.told(1), 3);
            DueWheels y = ticking();
            y.ticks(100);
            is("LAID as it rang is not MOVED", y.told(1), 0);
            DueWheels z = some(40);
            z.wheels(16, 0, 0, 0);
            z.ticks(40);
            is("one LEVEL: once, from FAR", z.told(1), 1);
        });
        e.edge(TERMS, "Then all of SLOT CLOCK modulo SIZE of LEVEL 0 RING", () -> {
            DueWheels x = some(1, 2, 3, 4, 16, 64, 128);
            for (int i = 1; i <= 4; i++) {
                is("at " + i, x.ticks(1), 1);
                row("at " + i, x, i - 1, i);
            }
            is("16, from LEVEL 2, but 64 and 128 not", x.ticks(59), 1);
            row("16", x, 4, 16);
            is("64, from FAR", x.ticks(1), 1);
            row("64", x, 5, 64);
            DueWheels y = after(new DueWheels(), ticks(3));
            y.sets(1, 0, 0, 1, 0);
            y.sets(3, 0, 0, 1, 0);
            is("SLOT 0 behind SLOT 3", y.ticks(1), 1);
            row("SLOT 0", y, 0, 4);
            is("SLOT 2", y.ticks(2), 1);
            row("SLOT 2", y, 1, 6);
        });
    }

    private static DueWheels groups() {
        DueWheels x = new DueWheels();
        x.sets(20, 7, 0, 1, 0);
        x.sets(20, 0, 0, 1, 0);
        x.sets(20, 3, 0, 1, 0);
        x.cancels(0);
        x.sets(20, 3, 0, 1, 0);
        x.sets(20, 7, 0, 1, 0);
        return x;
    }

    private static void tellOrder(Edges e) {
        e.edge(TERMS, "by RULE 0 (at first) the least ARRIVAL first", () -> {
            DueWheels x = groups();
            is("RULE", x.count(6), 0);
            is("four", x.ticks(20), 4);
            row("by ARRIVAL, not by number", x, 1, 20, 2, 20, 0, 20, 3, 20);
        });
        e.edge(TERMS, "by RULE 1 the least GROUP first, of one GROUP the least ARRIVAL", () -> {
            DueWheels x = groups();
            x.order(1);
            is("four", x.ticks(20), 4);
            row("by GROUP", x, 1, 20, 2, 20, 0, 20, 3, 20);
            DueWheels y = new DueWheels();
            y.sets(3, 7, 0, 1, 0);
            y.sets(3, 0, 0, 1, 0);
            y.sets(3, 7, 0, 1, 0);
            y.sets(3, 0, 0, 1, 0);
            y.order(1);
            y.ticks(3);
            row("by GROUP, then ARRIVAL", y, 1, 3, 3, 3, 0, 3, 2, 3);
        });
        e.edge(TERMS, "by RULE 2 the greatest ARRIVAL first", () -> {
            DueWheels x = groups();
            x.order(2);
            is("four", x.ticks(20), 4);
            row("the latest first", x, 3, 20, 0, 20, 2, 20, 1, 20);
        });
    }

    private static void tellRinging(Edges e) {
        e.edge(TERMS, "It RINGS: RANG is 1 more.", () -> {
            DueWheels x = ticking();
            x.ticks(1);
            is("one", x.timer(0, 8), 1);
            x.leaps(50);
            is("once by a LEAP", x.timer(0, 8), 2);
        });
        e.edge(TERMS, "If TIMES is 1, or SORT 0, it goes (its number is free).", () -> {
            DueWheels x = new DueWheels();
            for (int sort = 0; sort < 4; sort++) {
                x.sets(2, 0, sort, 5, 1);
            }
            x.sets(2, 0, 0, 5, 0);
            x.sets(2, 0, 0, 5, 99);
            x.sets(2, 0, 1, 5, 2);
            is("all RING", x.ticks(2), 7);
            is("TIMES 2 stays", x.count(3), 1);
            is("of the last one, TIMES 1", x.timer(6, 7), 1);
            is("the numbers are free", x.sets(9, 0, 0, 1, 0), 0);
            is("again", x.ticks(5), 1);
            is("it goes", x.group(0), 1);
            row("but for the new one", x, 0);
        });
        e.edge(TERMS, "Else TIMES (if not 0) is 1 less", () -> {
            DueWheels x = new DueWheels();
            x.sets(1, 0, 1, 1, 99);
            x.sets(1, 0, 2, 1, 2);
            x.sets(1, 0, 3, 1, 0);
            x.ticks(1);
            is("99", x.timer(0, 7), 98);
            is("2", x.timer(1, 7), 1);
            is("0", x.timer(2, 7), 0);
        });
        e.edge(TERMS, "1: DUE is PERIOD more, as often till it is above CLOCK (MISSED is 1 more for each time but the "
            + "first)", () -> {
                int[] clocks = {10, 13, 14, 15, 18, 19};
                int[] dues = {14, 14, 18, 18, 22, 22};
                int[] missed = {0, 0, 1, 1, 2, 2};
                for (int i = 0; i < clocks.length; i++) {
                    DueWheels x = new DueWheels();
                    x.sets(10, 0, 1, 4, 0);
                    is("it RINGS", x.leaps(clocks[i]), 1);
                    is("DUE at " + clocks[i], x.timer(0, 0), dues[i]);
                    is("MISSED at " + clocks[i], x.told(2), missed[i]);
                }
                DueWheels y = new DueWheels();
                y.sets(1, 0, 1, 1, 0);
                y.sets(1, 0, 1, 1000, 0);
                y.leaps(1000000);
                is("by ones", y.timer(0, 0), 1000001);
                is("by thousands", y.timer(1, 0), 1000001);
                is("MISSED", y.told(2), 999999 + 999);
            });
        e.edge(TERMS, "2: DUE is CLOCK and PERIOD", () -> {
            DueWheels x = new DueWheels();
            x.sets(10, 0, 2, 4, 0);
            x.leaps(15);
            is("DUE", x.timer(0, 0), 19);
            is("nothing MISSED", x.told(2), 0);
            x.ticks(4);
            is("DUE by a TICK", x.timer(0, 0), 23);
        });
        e.edge(TERMS, "3: PERIOD is doubled (1000 at most), then as 2", () -> {
            int[] periods = {1, 499, 500, 501, 999, 1000};
            int[] doubled = {2, 998, 1000, 1000, 1000, 1000};
            for (int i = 0; i < periods.length; i++) {
                DueWheels x = new DueWheels();
                x.sets(5, 0, 3, periods[i], 0);
                x.leaps(8);
                is("PERIOD of " + periods[i], x.timer(0, 6), doubled[i]);
                is("DUE of " + periods[i], x.timer(0, 0), 8 + doubled[i]);
                is("nothing MISSED", x.told(2), 0);
            }
        });
        e.edge(TERMS, "then it is LAID.", () -> {
            DueWheels x = new DueWheels();
            x.wheels(4, 4, 0, 0);
            for (int period : new int[] {3, 4, 15, 16}) {
                x.sets(5, 0, 1, period, 0);
            }
            x.ticks(5);
            lies("D 3, DUE 8", x, 0, 0, 0);
            lies("D 4, DUE 9", x, 1, 1, 2);
            lies("D 15, DUE 20, the SLOT where CLOCK is", x, 2, 1, 1);
            lies("D 16", x, 3, NONE, NONE);
            is("each RINGS at its own time", x.rings(16), 5 + 4 + 1 + 1);
        });
        e.edge(TERMS, "(All that RING at once are told first, then go, or are LAID, in that order.)", () -> {
            DueWheels x = new DueWheels();
            x.sets(2, 5, 0, 1, 0);
            x.sets(2, 6, 1, 4, 0);
            x.sets(2, 7, 3, 4, 0);
            is("three at once", x.ticks(2), 3);
            row("one that goes is told", x, 0, 2, 1, 2, 2, 2);
            is("told of the first", x.rung(0), 0);
            row("as it rang", x, 2, 2, 5, 1);
            is("told of the second", x.rung(1), 1);
            row("DUE as it was", x, 2, 2, 6, 1);
            is("told of the third", x.rung(2), 2);
            row("DUE as it was", x, 2, 2, 7, 1);
            lies("LAID with DUE 6", x, 1, 1, 1);
            lies("LAID with DUE 10", x, 2, 1, 2);
        });
    }

    private static void tellLeap(Edges e) {
        e.edge(TERMS, "A LEAP by n: CLOCK is n more (below 0: less).", () -> {
            DueWheels x = new DueWheels();
            x.leaps(1);
            is("1", x.count(0), 1);
            x.leaps(1000000);
            is("1000001", x.count(0), 1000001);
            x.leaps(-1);
            is("back by 1", x.count(0), 1000000);
            x.leaps(-1000000);
            is("back to 0", x.count(0), 0);
        });
        e.edge(TERMS, "STEADY ones: DUE is n more, too.", () -> {
            DueWheels x = some(5, 5);
            x.steady(0, true);
            is("the other one RINGS", x.leaps(1000), 1);
            is("ahead", x.timer(0, 0), 1005);
            is("back, none RINGS", x.leaps(-1000), 0);
            is("back", x.timer(0, 0), 5);
            lies("where it was", x, 0, 1, 1);
        });
        e.edge(TERMS, "PAUSED ones are as they are.", () -> {
            DueWheels x = some(5, 7);
            x.pauses(0);
            x.pauses(1);
            x.steady(1, true);
            is("none RINGS", x.leaps(100), 0);
            is("REST", x.timer(0, 10), 5);
            is("REST of a STEADY one", x.timer(1, 10), 7);
            is("back", x.leaps(-50), 0);
            is("REST", x.timer(0, 10), 5);
            is("REST of a STEADY one", x.timer(1, 10), 7);
            lies("nowhere", x, 0, -2, -2);
            is("nothing told", x.told(0), 0);
        });
        e.edge(TERMS, "Then all others of which DUE is CLOCK or less RING once, the least DUE first, of one DUE in ORDER.",
            () -> {
                DueWheels x = new DueWheels();
                x.sets(30, 2, 1, 1, 0);
                x.sets(29, 3, 1, 1, 0);
                x.sets(30, 1, 0, 1, 0);
                x.sets(31, 0, 0, 1, 0);
                x.order(1);
                is("DUE 29 and 30, not 31", x.leaps(30), 3);
                row("in order", x, 1, 29, 2, 30, 0, 30);
                is("31 is as it was", x.timer(3, 8), 0);
                is("once", x.timer(1, 8), 1);
                is("back: none is overdue", x.leaps(-30), 0);
                is("once, however far", x.leaps(1000000), 3);
                is("RANG", x.timer(0, 8), 2);
            });
        e.edge(TERMS, "Then all that are not PAUSED are LAID anew (not MOVED by that).", () -> {
            DueWheels x = some(70, 80, 90, 100);
            x.steady(2, true);
            x.pauses(3);
            x.leaps(68);
            lies("D 2", x, 0, 0, 70 % 4);
            lies("D 12", x, 1, 1, 80 / 4 % 4);
            lies("D 90 as before", x, 2, NONE, NONE);
            lies("PAUSED", x, 3, -2, -2);
            x.leaps(-40);
            lies("D 42", x, 0, 2, 70 / 16 % 4);
            is("not MOVED", x.told(1), 0);
            DueWheels y = some(20);
            y.steady(0, true);
            y.leaps(4);
            lies("a STEADY one, by its new DUE", y, 0, 2, 24 / 16);
            y.ticks(17);
            lies("at 21", y, 0, 1, 24 / 4 % 4);
            y.leaps(-13);
            lies("D 3, DUE 11", y, 0, 0, 11 % 4);
        });
    }

    private static void tellPaused(Edges e) {
        e.edge(TERMS, "PAUSED: it lies nowhere; it keeps D (DUE less CLOCK) as its REST.", () -> {
            DueWheels x = some(3, 70);
            x.ticks(2);
            is("REST", x.pauses(0), 1);
            is("REST of a far one", x.pauses(1), 68);
            lies("nowhere", x, 0, -2, -2);
            lies("nowhere, not far", x, 1, -2, -2);
            is("no SLOT has it", x.full(0) + x.full(1) + x.full(2), 0);
            is("none is far", x.far(), 0);
            is("it does not RING", x.ticks(100), 0);
            is("it is not MOVED", x.told(1), 0);
            is("it keeps it", x.timer(0, 10), 1);
            is("it keeps it", x.timer(1, 10), 68);
        });
    }

    private static void tellRow(Edges e) {
        e.edge(TERMS, "ROW: numbers told last by a call that says so.", () -> {
            DueWheels x = busy();
            row("group", x, 3, 4, 5);
            after(x, y -> y.sets(9, 0, 0, 1, 0), y -> y.order(1), y -> y.steady(0, true), y -> y.pauses(1),
                y -> y.resumes(1), y -> y.holds(1), y -> y.goesOn(1), y -> y.moves(2), y -> y.told(0), y -> y.count(0),
                y -> y.timer(2, 0), y -> y.sign(0), y -> y.end(0) ? 1 : 0, y -> y.wheels(5, 5, 5, 0),
                y -> y.cancels(6), y -> y.cancelsAll(7));
            row("calls that tell no ROW leave it", x, 3, 4, 5);
            x.group(1);
            row("the next one", x, 0);
            x.group(7);
            row("of none", x);
        });
        e.edge(TERMS, "Questions change nothing.", TermsEdges::questions);
        e.edge(TERMS, "Refused calls answer NONE and change nothing but THE TEXT, which a call that reads it empties.",
            TermsEdges::refusals);
        e.edge(TERMS, "NONE comes ahead of other answers below 0", TermsEdges::noneAhead);
        e.edge(TERMS, "the ROW stays with each answer below 0.", TermsEdges::rowStays);
    }

    private static void questions() {
        Call[] all = {y -> y.timer(0, 0), y -> y.slot(0, 1), y -> y.far(), y -> y.group(3), y -> y.full(1),
            y -> y.next(), y -> y.rings(100), y -> y.quiet(100), y -> y.moves(3), y -> y.cost(2, 3, 4, 5),
            y -> y.best(3), y -> y.ahead(0, 1), y -> y.way(3), y -> y.would(1000), y -> y.busiest(100),
            y -> y.till(5), y -> y.loudest(100), y -> y.clashes(100), y -> y.rung(0), y -> y.told(0),
            y -> y.count(0), y -> y.row(0)};
        for (int i = 0; i < all.length; i++) {
            DueWheels x = busy();
            Check.is("question " + i + " is answered", all[i].of(x) >= 0, true);
            same("question " + i, x, busy());
        }
    }

    private static void refusals() {
        refused(EdgeKit::busy, NONE, y -> y.wheels(1, 0, 0, 0), y -> y.order(3), y -> y.ticks(101),
            y -> y.leaps(0), y -> y.sets(0, 0, 0, 1, 0), y -> y.cancels(6), y -> y.cancelsAll(8),
            y -> y.steady(6, true), y -> y.pauses(6), y -> y.resumes(6), y -> y.holds(8), y -> y.goesOn(8),
            y -> y.spreads(3, 1001), y -> y.delays(0, 0), y -> y.slot(3, 0), y -> y.group(8), y -> y.full(3),
            y -> y.rings(0), y -> y.quiet(0), y -> y.moves(6), y -> y.cost(0, 0, 0, 0), y -> y.best(0),
            y -> y.ahead(0, 0), y -> y.way(6), y -> y.would(0), y -> y.busiest(0), y -> y.till(0),
            y -> y.loudest(0), y -> y.clashes(0), y -> y.rung(40), y -> y.told(7), y -> y.count(14));
        DueWheels x = busy();
        x.end(0);
        Check.text(x, "x1");
        is("a TEXT that can't be", x.run(), NONE);
        is("is emptied", x.count(9), 0);
        row("the ROW stays", x, 3, 4, 5);
        DueWheels same = busy();
        same.end(0);
        same("nothing else is changed", x, same);
    }

    private static void noneAhead() {
        DueWheels x = sixteen();
        is("-3 of sets", x.sets(1, 0, 0, 1, 0), -3);
        is("NONE of sets", x.sets(1, 0, 0, 1, 100), NONE);
        x.holds(3);
        is("-2 of spreads", x.spreads(3, 1000), -2);
        is("NONE of spreads", x.spreads(3, 1001), NONE);
        is("-2 of ahead", x.ahead(3, 11), -2);
        is("NONE of ahead, both are one", x.ahead(3, 3), NONE);
        is("NONE of ahead, none such", x.ahead(3, 16), NONE);
        is("-4 of leaps", x.leaps(-1000000), -4);
        is("NONE of leaps", x.leaps(-1000001), NONE);
        is("-4 of would", x.would(-1000000), -4);
        is("NONE of would", x.would(-1000001), NONE);
        is("-2 of loudest", x.loudest(100), -2);
        is("NONE of loudest", x.loudest(101), NONE);
        is("-2 of till", x.till(100), -2);
        is("NONE of till", x.till(101), NONE);
        DueWheels y = nearTheEnd(50);
        is("-4 of ticks", y.ticks(51), -4);
        is("NONE of ticks", y.ticks(101), NONE);
        is("-4 of leaps ahead", y.leaps(1000000), -4);
        is("NONE of leaps ahead", y.leaps(1000001), NONE);
        is("-4 of rings", y.rings(100), -4);
        is("NONE of rings", y.rings(101), NONE);
        is("NONE of quiet", y.quiet(101), NONE);
        is("NONE of busiest", y.busiest(101), NONE);
        is("NONE of loudest", y.loudest(101), NONE);
        is("NONE of clashes", y.clashes(101), NONE);
        is("NONE of till", y.till(101), NONE);
    }

    private static void rowStays() {
        refused(EdgeKit::busy, -2, y -> y.wheels(4, 4, 4, 0), y -> y.order(0), y -> y.steady(4, true),
            y -> y.steady(0, false), y -> y.pauses(5), y -> y.resumes(0), y -> y.spreads(1, 5),
            y -> y.delays(2, 24), y -> y.delays(5, 6), y -> y.moves(5), y -> y.ahead(0, 5), y -> y.way(5),
            y -> y.till(100));
        refused(EdgeKit::busy, -4, y -> y.leaps(-7), y -> y.would(-7));
        refused(EdgeKit::sixteen, -3, y -> y.sets(1, 0, 0, 1, 0));
        refused(EdgeKit::sixteen, -2, y -> y.loudest(100), y -> y.till(1));
        refused(() -> nearTheEnd(1), -4, y -> y.ticks(2), y -> y.leaps(2), y -> y.rings(2),
            y -> y.quiet(2), y -> y.would(2), y -> y.busiest(2), y -> y.till(1), y -> y.loudest(2), y -> y.clashes(2));
        DueWheels x = busy();
        for (String text : new String[] {"x", "t", "t10", "t1;", "s5,0;c1;l-0", "s5,1,1001"}) {
            is("a TEXT that can't be", run(x, text) < 0 ? 1 : 0, 1);
            row("the ROW stays", x, 3, 4, 5);
        }
    }
}
