import java.util.function.IntFunction;

/** Edges of promises 24 to 36: what comes, were nothing done but TICKS. */
final class ComingEdges extends EdgeKit {
    private ComingEdges() {
    }

    static void tell(Edges e) {
        tellNext(e);
        tellRings(e);
        tellQuiet(e);
        tellMoves(e);
        tellCost(e);
        tellBest(e);
        tellAhead(e);
        tellWay(e);
        tellWould(e);
        tellBusiest(e);
        tellTill(e);
        tellLoudest(e);
        tellClashes(e);
    }

    /** What the questions of n TICKS refuse alike: another n, ahead of an n that passes the last CLOCK. */
    private static void refusesTicks(IntFunction<Call> call) {
        noneEach(NO_TICKS, call);
        refused(() -> nearTheEnd(1), NONE, call.apply(0), call.apply(101));
        passesTheEnd(call);
    }

    private static void passesTheEnd(IntFunction<Call> call) {
        refused(() -> nearTheEnd(1), -4, call.apply(2), call.apply(100));
        refused(() -> nearTheEnd(99), -4, call.apply(100));
        refused(() -> after(nearTheEnd(1), ticks(1), y -> y.group(0)), -4, call.apply(1));
    }

    private static void tellNext(Edges e) {
        e.edge(24, "The CLOCK at which something RINGS next: it; the ROW: the TIMERS that do, in ORDER.", () -> {
            asked(() -> some(7, 5, 6, 5), y -> y.next(), 5, 1, 3);
            asked(() -> after(some(7, 5, 6, 5), y -> y.order(2)), y -> y.next(), 5, 3, 1);
            asked(() -> some(1000000), y -> y.next(), 1000000, 0);
            asked(EdgeKit::busy, y -> y.next(), 8, 0);
            asked(() -> after(some(7, 70), y -> y.far(), y -> y.slot(1, 1)), y -> y.next(), 7, 0);
            DueWheels x = new DueWheels();
            for (int i = 0; i < 16; i++) {
                x.sets(9, 7 - i % 8, 0, 1, 0);
            }
            x.order(1);
            is("all sixteen", x.next(), 9);
            row("by GROUPS", x, 7, 15, 6, 14, 5, 13, 4, 12, 3, 11, 2, 10, 1, 9, 0, 8);
        });
        e.edge(24, "-2: there are none that are not PAUSED.", () -> {
            refused(DueWheels::new, -2, y -> y.next());
            refused(() -> after(some(3, 4), y -> y.group(0), y -> y.holds(0)), -2, y -> y.next());
            refused(() -> after(some(3), ticks(3)), -2, y -> y.next());
            is("one is not", after(some(3, 4), y -> y.pauses(0)).next(), 4);
        });
    }

    private static void tellRings(Edges e) {
        e.edge(25, "How many RING in n TICKS (1 .. 100): it", () -> {
            DueWheels x = some(1, 2, 100, 101);
            is("1", x.rings(1), 1);
            is("2", x.rings(2), 2);
            is("99", x.rings(99), 2);
            is("100, not 101", x.rings(100), 3);
            is("none", new DueWheels().rings(100), 0);
            is("of a PAUSED one none", after(ticking(), y -> y.pauses(0)).rings(100), 0);
            DueWheels y = new DueWheels();
            for (int i = 0; i < 16; i++) {
                y.sets(1, 0, 1, 1, 0);
            }
            is("the most", y.rings(100), 1600);
        });
        e.edge(25, "the ROW: of the first 20 the TIMER and CLOCK then", () -> {
            asked(() -> some(4), y -> y.rings(3), 0);
            asked(() -> some(4, 2, 4), y -> y.rings(4), 3, 1, 2, 0, 4, 2, 4);
            DueWheels x = ticking();
            int[] ticks = {1, 19, 20, 21, 100};
            int[] told = {1, 19, 20, 20, 20};
            for (int i = 0; i < ticks.length; i++) {
                is("all of " + ticks[i], x.rings(ticks[i]), ticks[i]);
                is("the ROW of " + ticks[i], x.count(8), 2 * told[i]);
                is("from the first on", x.row(1), 1);
                is("to", x.row(2 * told[i] - 1), told[i]);
            }
            DueWheels y = new DueWheels();
            for (int i = 0; i < 16; i++) {
                y.sets(1, 0, 1, 1, 0);
            }
            y.rings(2);
            is("16 and 4", y.count(8), 40);
            is("the fourth of the second", y.row(38), 3);
            is("CLOCK", y.row(39), 2);
        });
        e.edge(25, "-4: CLOCK would pass 1000000000", () -> {
            passesTheEnd(n -> y -> y.rings(n));
            is("just to it", nearTheEnd(100).rings(100), 100);
        });
        e.edge(25, "NONE: another n.", () -> refusesTicks(n -> y -> y.rings(n)));
    }

    private static void tellQuiet(Edges e) {
        e.edge(26, "The most TICKS one behind another, of n (1 .. 100), in which nothing RINGS: it", () -> {
            DueWheels x = some(3, 9, 100);
            is("1", x.quiet(1), 1);
            is("3", x.quiet(3), 2);
            is("8", x.quiet(8), 5);
            is("100", x.quiet(100), 90);
            row("CLOCK", x, 10);
            is("99, to the end of these", x.quiet(99), 90);
            is("20", x.quiet(20), 11);
            row("CLOCK", x, 10);
            asked(DueWheels::new, y -> y.quiet(100), 100, 1);
            asked(DueWheels::new, y -> y.quiet(1), 1, 1);
            asked(() -> some(3, 6), y -> y.quiet(6), 2, 1);
            asked(() -> after(some(9, 2), ticks(3)), y -> y.quiet(7), 5, 4);
        });
        e.edge(26, "the ROW: CLOCK at the first of these (0 of none)", () -> {
            asked(EdgeKit::ticking, y -> y.quiet(100), 0, 0);
            asked(() -> after(ticking(), ticks(7)), y -> y.quiet(1), 0, 0);
            asked(() -> after(some(100), ticks(7)), y -> y.quiet(1), 1, 8);
        });
        e.edge(26, "-4: as rings()", () -> {
            passesTheEnd(n -> y -> y.quiet(n));
            is("just to it", nearTheEnd(100).quiet(100), 0);
        });
        e.edge(26, "NONE: another n.", () -> refusesTicks(n -> y -> y.quiet(n)));
    }

    private static void tellMoves(Edges e) {
        e.edge(27, "How often a TIMER will be MOVED till it RINGS: it.", () -> {
            int[] delays = {1, 3, 4, 15, 16, 19, 20, 63, 64, 67, 68, 80, 84, 127, 128, 1000000};
            int[] moves = {0, 0, 1, 1, 1, 1, 2, 2, 1, 1, 2, 2, 3, 3, 1, 1};
            for (int i = 0; i < delays.length; i++) {
                is("delay " + delays[i], one(delays[i]).moves(0), moves[i]);
            }
            DueWheels x = one(85);
            x.ticks(63);
            is("FAR", x.moves(0), 3);
            x.ticks(1);
            is("on LEVEL 2", x.moves(0), 2);
            x.ticks(16);
            is("on LEVEL 1", x.moves(0), 1);
            x.ticks(4);
            is("on LEVEL 0", x.moves(0), 0);
            is("as it lies, though D is small", after(one(16), ticks(15)).moves(0), 1);
            is("one LEVEL, from FAR", after(one(40), y -> y.wheels(2, 0, 0, 0)).moves(0), 1);
            is("one LEVEL, not FAR", after(one(15), y -> y.wheels(16, 0, 0, 0)).moves(0), 0);
            is("the most", after(one(31), y -> y.wheels(2, 2, 2, 2)).moves(0), 4);
        });
        e.edge(27, "-2: it is PAUSED", () -> {
            refused(EdgeKit::busy, -2, y -> y.moves(5));
            is("no more", after(busy(), y -> y.resumes(5)).moves(5), 1);
        });
        e.edge(27, "NONE: none such.", () -> {
            noneEach(NO_TIMERS, v -> y -> y.moves(v));
            refused(() -> after(busy(), y -> y.cancels(5)), NONE, y -> y.moves(5));
        });
    }

    private static void tellCost(Edges e) {
        e.edge(28, "moves() of all that are not PAUSED together, were all LAID now by wheels(a, b, c, d): it; the ROW: "
            + "how many would be FAR, the most moves() of one.", () -> {
                asked(DueWheels::new, y -> y.cost(2, 0, 0, 0), 0, 0, 0);
                asked(() -> some(3, 16, 21, 64, 85), y -> y.cost(4, 4, 4, 0), 7, 2, 3);
                asked(() -> after(some(3, 16, 21, 64, 85), y -> y.pauses(4)),
                    y -> y.cost(4, 4, 4, 0), 4, 1, 2);
                asked(() -> after(some(3, 16, 21), y -> y.holds(0)), y -> y.cost(2, 2, 2, 2), 0, 0, 0);
                asked(() -> some(15, 16, 17), y -> y.cost(16, 0, 0, 0), 2, 2, 1);
                asked(() -> some(15, 16, 17), y -> y.cost(16, 2, 0, 0), 2, 0, 1);
                asked(() -> some(1, 2, 3), y -> y.cost(2, 0, 0, 0), 2, 2, 1);
                asked(() -> some(65535, 65536), y -> y.cost(16, 16, 16, 16), 4, 1, 3);
                asked(() -> after(some(21), ticks(18)), y -> y.cost(4, 4, 4, 4), 0, 0, 0);
            });
        e.edge(28, "NONE: as wheels() (as they are is no refusal).", () -> {
            refused(EdgeKit::busy, NONE, y -> y.cost(0, 0, 0, 0), y -> y.cost(0, 4, 4, 4));
            for (int wrong : new int[] {1, 17, -1, Integer.MIN_VALUE, Integer.MAX_VALUE}) {
                refused(EdgeKit::busy, NONE, y -> y.cost(wrong, 0, 0, 0), y -> y.cost(4, wrong, 0, 0),
                    y -> y.cost(4, 4, wrong, 0), y -> y.cost(4, 4, 4, wrong), y -> y.cost(4, 0, wrong, 0),
                    y -> y.cost(4, 0, 0, wrong), y -> y.cost(4, 4, 0, wrong));
            }
            refused(EdgeKit::busy, NONE, y -> y.cost(4, 0, 4, 0), y -> y.cost(4, 0, 0, 4), y -> y.cost(4, 4, 0, 4));
            asked(() -> some(20), y -> y.cost(4, 4, 4, 0), 2, 0, 2);
            is("as they are, laid now and not as they lie", after(one(16), ticks(14))
                .cost(4, 4, 4, 0), 0);
            for (int right : new int[] {2, 16}) {
                is("of the least and the greatest", new DueWheels().cost(right, right, right, right), 0);
            }
        });
    }

    private static DueWheels sixteenOf(int delay) {
        DueWheels x = new DueWheels();
        for (int i = 0; i < 16; i++) {
            x.sets(delay, 0, 0, 1, 0);
        }
        return x;
    }

    private static void tellBest(Edges e) {
        e.edge(29, "The SIZE by which cost() of l LEVELS (1 .. 4), all of it, and all their SLOTS together are least "
            + "(of equal ones the least SIZE): it; the ROW: these together.", () -> {
                for (int l = 1; l <= 4; l++) {
                    int of = l;
                    asked(DueWheels::new, y -> y.best(of), 2, 2 * of);
                }
                // One timer of D 2: SIZE 2 costs 1 and 2 SLOTS, SIZE 3 costs 0 and 3.
                asked(() -> some(2), y -> y.best(1), 2, 3);
                asked(() -> some(2, 2), y -> y.best(1), 3, 3);
                asked(() -> after(some(2, 2), y -> y.pauses(0)), y -> y.best(1), 2, 3);
                DueWheels x = sixteenOf(15);
                is("the greatest SIZE", x.best(1), 16);
                row("no cost, 16 SLOTS", x, 16);
                // D 15 by two LEVELS of 4: moved once each, 16 and 8; of 3 (WHOLE 9): far, laid at 9 on LEVEL 1: 32 and 6.
                is("two LEVELS", x.best(2), 4);
                row("16 and 8", x, 24);
                x.wheels(9, 9, 0, 0);
                is("whatever the wheels are", x.best(2), 4);
                int[][] sizes = {{2, 18}, {3, 22}, {8, 40}, {3, 44}};
                for (int l = 1; l <= 4; l++) {
                    int of = l;
                    asked(() -> sixteenOf(63), y -> y.best(of), sizes[l - 1][0], sizes[l - 1][1]);
                }
                int[][] others = {{12, 2}, {19, 2}, {26, 2}, {32, 3}};
                for (int l = 1; l <= 4; l++) {
                    int of = l;
                    asked(() -> some(5, 9, 30, 60, 99, 100, 250, 251, 300, 511), y -> y.best(of),
                        others[l - 1][1], others[l - 1][0]);
                }
            });
        e.edge(29, "NONE: no such l.", () -> noneEach(new int[] {0, 5, -1, Integer.MIN_VALUE, Integer.MAX_VALUE},
            v -> y -> y.best(v)));
    }

    private static void tellAhead(Edges e) {
        e.edge(30, "Of two TIMERS the one that RINGS first (next time): 0 the first one, 1 the other one; the ROW: CLOCK "
            + "then.", () -> {
                asked(() -> some(5, 6), y -> y.ahead(0, 1), 0, 5);
                asked(() -> some(5, 6), y -> y.ahead(1, 0), 1, 5);
                asked(() -> some(5, 5), y -> y.ahead(0, 1), 0, 5);
                asked(() -> some(5, 5), y -> y.ahead(1, 0), 1, 5);
                asked(() -> after(some(5, 5), y -> y.order(2)), y -> y.ahead(0, 1), 1, 5);
                asked(() -> after(some(4, 5), y -> y.order(2)), y -> y.ahead(0, 1), 0, 4);
                asked(EdgeKit::sixteen, y -> y.ahead(15, 14), 1, 115);
                DueWheels x = new DueWheels();
                x.sets(5, 7, 0, 1, 0);
                x.sets(5, 0, 0, 1, 0);
                x.order(1);
                is("by GROUP", x.ahead(0, 1), 1);
                row("CLOCK", x, 5);
            });
        e.edge(30, "-2: one of them is PAUSED", () -> {
            refused(EdgeKit::busy, -2, y -> y.ahead(5, 0), y -> y.ahead(0, 5));
            refused(() -> after(busy(), y -> y.pauses(0)), -2, y -> y.ahead(5, 0));
        });
        e.edge(30, "NONE: none such, both are one", () -> {
            noneEach(NO_TIMERS, v -> y -> y.ahead(v, 0));
            noneEach(NO_TIMERS, v -> y -> y.ahead(0, v));
            noneEach(NO_TIMERS, v -> y -> y.ahead(v, 5));
            noneEach(NO_TIMERS, v -> y -> y.ahead(5, v));
            noneEach(NO_TIMERS, v -> y -> y.ahead(v, v));
            noneEach(new int[] {0, 4, 5}, v -> y -> y.ahead(v, v));
        });
    }

    private static void tellWay(Edges e) {
        e.edge(31, "The way of a TIMER till it RINGS: how often it is MOVED; the ROW: its LEVEL now, then of each time "
            + "CLOCK and the LEVEL to which it comes, then CLOCK as it RINGS.", () -> {
                asked(() -> some(1), y -> y.way(0), 0, 0, 1);
                asked(() -> some(3), y -> y.way(0), 0, 0, 3);
                asked(() -> some(4), y -> y.way(0), 1, 1, 4, 0, 4);
                asked(() -> some(16), y -> y.way(0), 1, 2, 16, 0, 16);
                asked(() -> some(63), y -> y.way(0), 2, 2, 48, 1, 60, 0, 63);
                asked(() -> some(64), y -> y.way(0), 1, NONE, 64, 0, 64);
                asked(() -> some(127), y -> y.way(0), 3, NONE, 64, 2, 112, 1, 124, 0, 127);
                asked(() -> after(some(31), y -> y.wheels(2, 2, 2, 2)), y -> y.way(0), 4, NONE, 16, 3,
                    24, 2, 28, 1, 30, 0, 31);
                asked(() -> after(some(1000000), y -> y.wheels(2, 0, 0, 0)), y -> y.way(0), 1, NONE,
                    1000000, 0, 1000000);
                asked(() -> after(some(16), ticks(15)), y -> y.way(0), 1, 2, 16, 0, 16);
                asked(() -> after(some(30), ticks(14), y -> y.delays(0, 14)), y -> y.way(0), 1,
                    1, 28, 0, 28);
            });
        e.edge(31, "-2: it is PAUSED", () -> {
            refused(EdgeKit::busy, -2, y -> y.way(5));
            is("no more", after(busy(), y -> y.resumes(5)).way(5), 1);
        });
        e.edge(31, "NONE: none such.", () -> {
            noneEach(NO_TIMERS, v -> y -> y.way(v));
            refused(() -> after(busy(), y -> y.cancels(5)), NONE, y -> y.way(5));
        });
    }

    private static void tellWould(Edges e) {
        e.edge(32, "How many would RING by a LEAP by n: it", () -> {
            is("DUE 6, not 7", some(5, 6, 7).would(6), 2);
            is("none", some(5, 6, 7).would(4), 0);
            is("all", sixteen().would(1000000), 16);
            is("back", busy().would(-6), 0);
            is("of STEADY and PAUSED ones none", after(some(5, 6), y -> y.steady(0, true), y -> y.pauses(1))
                .would(1000), 0);
        });
        e.edge(32, "the ROW: of the first 20 the TIMER and DUE after it (NONE: it would go)", () -> {
            asked(() -> some(7, 5, 6), y -> y.would(6), 2, 1, NONE, 2, NONE);
            asked(() -> some(7), y -> y.would(6), 0);
            asked(() -> {
                DueWheels x = new DueWheels();
                x.sets(5, 0, 1, 3, 0);
                x.sets(5, 0, 2, 3, 2);
                x.sets(5, 0, 3, 600, 0);
                x.sets(5, 0, 3, 3, 1);
                x.sets(4, 0, 0, 3, 9);
                return x;
            }, y -> y.would(11), 5, 4, NONE, 0, 14, 1, 14, 2, 1011, 3, NONE);
            DueWheels x = sixteen();
            x.would(1000);
            is("all sixteen are told", x.count(8), 32);
            is("the last", x.row(30), 15);
        });
        e.edge(32, "-4, NONE: as leaps().", () -> {
            refused(EdgeKit::busy, NONE, y -> y.would(0), y -> y.would(1000001), y -> y.would(-1000001),
                y -> y.would(Integer.MIN_VALUE), y -> y.would(Integer.MAX_VALUE));
            refused(EdgeKit::busy, -4, y -> y.would(-7), y -> y.would(-1000000));
            refused(() -> nearTheEnd(5), -4, y -> y.would(6), y -> y.would(1000000));
            refused(() -> nearTheEnd(5), NONE, y -> y.would(0), y -> y.would(1000001));
            is("just to the last", nearTheEnd(5).would(5), 1);
            is("just to 0", busy().would(-6), 0);
            is("the farthest", busy().would(1000000), 4);
            is("the farthest back", after(new DueWheels(), y -> y.leaps(1000000)).would(-1000000), 0);
        });
    }

    private static void tellBusiest(Edges e) {
        e.edge(33, "The CLOCK, of the next n TICKS (1 .. 100), at which most RING at once (of equal ones the first): it",
            () -> {
                DueWheels x = some(1, 3, 3, 50, 50, 100, 100, 100, 101, 101, 101, 101);
                is("1", x.busiest(1), 1);
                is("2", x.busiest(2), 1);
                is("3", x.busiest(3), 3);
                is("of equal ones the first", x.busiest(99), 3);
                is("100, not 101", x.busiest(100), 100);
                is("from CLOCK on", after(x, ticks(3)).busiest(47), 50);
            });
        e.edge(33, "the ROW: how many, 1 if there are more such, else 0", () -> {
            asked(() -> some(3, 3, 4, 5, 5), y -> y.busiest(4), 3, 2, 0);
            asked(() -> some(3, 3, 4, 5, 5), y -> y.busiest(5), 3, 2, 1);
            asked(() -> some(3, 5), y -> y.busiest(5), 3, 1, 1);
            asked(() -> some(3, 4, 5, 5), y -> y.busiest(5), 5, 2, 0);
            DueWheels x = sixteenOf(9);
            is("all sixteen", x.busiest(100), 9);
            row("all sixteen", x, 16, 0);
        });
        e.edge(33, "(CLOCK, 0, 0, if nothing RINGS)", () -> {
            asked(DueWheels::new, y -> y.busiest(100), 0, 0, 0);
            asked(() -> after(some(60), ticks(7)), y -> y.busiest(52), 7, 0, 0);
            asked(() -> after(some(60), y -> y.pauses(0), ticks(7)), y -> y.busiest(100), 7, 0, 0);
        });
        e.edge(33, "-4, NONE: as rings().", () -> {
            refusesTicks(n -> y -> y.busiest(n));
            is("just to the last", nearTheEnd(100).busiest(100), LAST_CLOCK - 99);
        });
    }

    private static void tellTill(Edges e) {
        e.edge(34, "The CLOCK at which as many as m (1 .. 100) RANG in all from now on, of the next 100 TICKS: it", () -> {
            DueWheels x = ticking();
            is("1", x.till(1), 1);
            is("100", x.till(100), 100);
            x.ticks(9);
            is("from now on", x.till(1), 10);
            is("the last of 100 TICKS", x.till(100), 109);
            is("at the hundredth", some(100).till(1), 100);
        });
        e.edge(34, "the ROW: how many RANG by then, MOVED by then", () -> {
            asked(EdgeKit::ticking, y -> y.till(1), 1, 1, 0);
            asked(() -> some(5, 5, 5, 6), y -> y.till(2), 5, 3, 4);
            asked(() -> some(5, 5, 5, 6), y -> y.till(3), 5, 3, 4);
            asked(() -> some(5, 5, 5, 6), y -> y.till(4), 6, 4, 4);
            asked(() -> some(16), y -> y.till(1), 16, 1, 1);
            asked(() -> after(some(5, 20), ticks(7)), y -> y.till(1), 20, 1, 2);
            asked(() -> some(2, 4), y -> y.till(1), 2, 1, 0);
            // MOVED at 72, 90 and 94, from LEVEL 3 down to 0; the next one at 40 to LEVEL 2, at 56 to LEVEL 0.
            asked(() -> after(some(95), y -> y.wheels(2, 3, 4, 5)), y -> y.till(1), 95, 1, 3);
            asked(() -> after(some(57), y -> y.wheels(2, 2, 5, 3)), y -> y.till(1), 57, 1, 2);
            asked(() -> after(some(95), y -> y.wheels(16, 0, 0, 0)), y -> y.till(1), 95, 1, 1);
            asked(() -> after(some(95, 1), y -> y.wheels(3, 3, 3, 0), ticks(81)), y -> y.till(1),
                95, 1, 2);
        });
        e.edge(34, "-2: fewer do", () -> {
            refused(DueWheels::new, -2, y -> y.till(1));
            refused(() -> after(some(101), y -> y.group(0)), -2, y -> y.till(1));
            refused(() -> after(some(1, 2, 3), y -> y.group(0)), -2, y -> y.till(4), y -> y.till(100));
            is("just as many", some(1, 2, 3).till(3), 3);
            refused(() -> {
                DueWheels x = new DueWheels();
                x.sets(2, 0, 1, 1, 0);
                x.group(0);
                return x;
            }, -2, y -> y.till(100));
        });
        e.edge(34, "-4: CLOCK and 100 would pass 1000000000", () -> {
            refused(() -> nearTheEnd(99), -4, y -> y.till(1), y -> y.till(100));
            refused(() -> after(nearTheEnd(1), ticks(1)), -4, y -> y.till(1));
            is("just to it", nearTheEnd(100).till(1), LAST_CLOCK - 99);
            is("just to it", nearTheEnd(100).till(100), LAST_CLOCK);
        });
        e.edge(34, "NONE: another m.", () -> {
            noneEach(NO_TICKS, v -> y -> y.till(v));
            refused(() -> nearTheEnd(1), NONE, y -> y.till(0), y -> y.till(101));
        });
    }

    private static void tellLoudest(Edges e) {
        e.edge(35, "The GROUP that RINGS most often in n TICKS (1 .. 100; of equal ones the least): it; the ROW: how often "
            + "each does.", () -> {
                DueWheels x = new DueWheels();
                x.sets(1, 7, 0, 1, 0);
                x.sets(2, 3, 0, 1, 0);
                x.sets(3, 0, 0, 1, 0);
                x.sets(100, 3, 0, 1, 0);
                x.sets(101, 7, 0, 1, 0);
                x.sets(101, 7, 0, 1, 0);
                is("1", x.loudest(1), 7);
                row("each", x, 0, 0, 0, 0, 0, 0, 0, 1);
                is("of equal ones the least", x.loudest(2), 3);
                row("each", x, 0, 0, 0, 1, 0, 0, 0, 1);
                is("of equal ones the least", x.loudest(99), 0);
                row("each", x, 1, 0, 0, 1, 0, 0, 0, 1);
                is("100, not 101", x.loudest(100), 3);
                row("each", x, 1, 0, 0, 2, 0, 0, 0, 1);
                asked(EdgeKit::ticking, y -> y.loudest(100), 0, 100, 0, 0, 0, 0, 0, 0, 0);
                for (int g = 0; g < 8; g++) {
                    DueWheels y = new DueWheels();
                    y.sets(9, g, 0, 1, 0);
                    is("GROUP " + g, y.loudest(9), g);
                }
            });
        e.edge(35, "-2: none does", () -> {
            refused(DueWheels::new, -2, y -> y.loudest(100));
            refused(() -> after(some(101), y -> y.group(0)), -2, y -> y.loudest(100));
            refused(() -> after(ticking(), y -> y.group(0), y -> y.pauses(0)), -2, y -> y.loudest(100));
            refused(() -> after(some(2), y -> y.group(0)), -2, y -> y.loudest(1));
        });
        e.edge(35, "-4, NONE: as rings().", () -> {
            refusesTicks(n -> y -> y.loudest(n));
            is("just to the last", nearTheEnd(100).loudest(100), 0);
        });
    }

    private static void tellClashes(Edges e) {
        e.edge(36, "In how many of n TICKS (1 .. 100) two or more RING at once: it", () -> {
            DueWheels x = some(1, 1, 3, 50, 50, 50, 100, 100, 101, 101);
            is("1", x.clashes(1), 1);
            is("3", x.clashes(3), 1);
            is("50", x.clashes(50), 2);
            is("99", x.clashes(99), 2);
            is("100, not 101", x.clashes(100), 3);
            DueWheels y = ticking();
            y.sets(1, 0, 1, 1, 0);
            is("each of 100", y.clashes(100), 100);
        });
        e.edge(36, "the ROW: CLOCK at the first of these (NONE), two of them that RING at once then, the first in ORDER "
            + "(NONE each)", () -> {
                asked(DueWheels::new, y -> y.clashes(100), 0, NONE, NONE, NONE);
                asked(EdgeKit::ticking, y -> y.clashes(100), 0, NONE, NONE, NONE);
                asked(() -> some(5, 5), y -> y.clashes(4), 0, NONE, NONE, NONE);
                asked(() -> some(5, 5), y -> y.clashes(5), 1, 5, 0, 1);
                asked(() -> some(5, 5, 6, 4), y -> y.clashes(9), 1, 5, 0, 1);
                asked(() -> some(9, 9, 5, 5, 5), y -> y.clashes(9), 2, 5, 2, 3);
                asked(() -> after(some(9, 9, 5, 5, 5), y -> y.order(2)), y -> y.clashes(9), 2, 5, 4, 3);
                DueWheels x = new DueWheels();
                x.sets(4, 6, 0, 1, 0);
                x.sets(4, 5, 0, 1, 0);
                x.sets(4, 4, 0, 1, 0);
                x.order(1);
                is("by GROUPS", x.clashes(4), 1);
                row("by GROUPS", x, 4, 2, 1);
            });
        e.edge(36, "-4, NONE: as rings().", () -> {
            refusesTicks(n -> y -> y.clashes(n));
            is("just to the last", nearTheEnd(100).clashes(100), 0);
        });
    }
}
