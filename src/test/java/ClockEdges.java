/** Edges of promises 1 to 5: a new object, wheels, the clock. */
final class ClockEdges extends EdgeKit {
    private ClockEdges() {
    }

    static void tell(Edges e) {
        tellNew(e);
        tellWheels(e);
        tellOrder(e);
        tellTicks(e);
        tellLeaps(e);
    }

    private static void tellNew(Edges e) {
        e.edge(1, "Three LEVELS of four SLOTS, no TIMERS.", () -> {
            DueWheels x = new DueWheels();
            is("LEVELS", x.count(1), 3);
            for (int k = 0; k < 3; k++) {
                is("SLOTS of LEVEL " + k, x.count(10 + k), 4);
                is("SLOTS that are not empty", x.full(k), 0);
            }
            is("no fourth LEVEL", x.count(13), 0);
            is("TIMERS", x.count(3), 0);
            is("PAUSED", x.count(4), 0);
            is("FAR", x.count(5), 0);
            is("no next one", x.next(), -2);
            noSuch(DueWheels::new, y -> y.timer(0, 0), y -> y.timer(15, 0), y -> y.row(0));
            is("nothing rings", x.ticks(100), 0);
            is("nor by a LEAP", x.leaps(1000000), 0);
            DueWheels other = new DueWheels();
            is("another one has a clock of its own", other.count(0), 0);
            is("and timers of its own", one(5).count(3) + other.count(3), 1);
        });
    }

    private static void tellWheels(Edges e) {
        e.edge(2, "There are as many LEVELS as numbers ahead of the first 0, of these SIZES (LEVEL 0 first): how many",
            () -> {
                DueWheels x = new DueWheels();
                is("one", x.wheels(7, 0, 0, 0), 1);
                is("two", x.wheels(7, 6, 0, 0), 2);
                is("three", x.wheels(7, 6, 5, 0), 3);
                is("four", x.wheels(7, 6, 5, 3), 4);
                for (int k = 0; k < 4; k++) {
                    is("SIZE of LEVEL " + k, x.count(10 + k), new int[] {7, 6, 5, 3}[k]);
                }
                is("one again", x.wheels(7, 0, 0, 0), 1);
                is("the others are gone", x.count(11) + x.count(12) + x.count(13), 0);
                is("their LEVELS too", x.full(1), NONE);
            });
        e.edge(2, "all TIMERS are LAID anew (not MOVED)", () -> {
            DueWheels x = some(16, 40, 70, 80);
            x.pauses(3);
            x.ticks(15);
            is("two", x.wheels(4, 8, 0, 0), 2);
            lies("D 1", x, 0, 0, 0);
            lies("D 25", x, 1, 1, 40 / 4 % 8);
            lies("D 55", x, 2, NONE, NONE);
            lies("PAUSED", x, 3, -2, -2);
            x.wheels(16, 4, 0, 0);
            lies("D 55", x, 2, 1, 70 / 16 % 4);
            is("not MOVED", x.told(1), 0);
            is("and RINGS", x.ticks(55), 3);
        });
        e.edge(2, "-2: they are so", () -> {
            refused(EdgeKit::busy, -2, y -> y.wheels(4, 4, 4, 0));
            refused(() -> after(busy(), y -> y.wheels(2, 0, 0, 0)), -2, y -> y.wheels(2, 0, 0, 0));
            refused(() -> after(busy(), y -> y.wheels(2, 3, 4, 5)), -2, y -> y.wheels(2, 3, 4, 5));
            is("one LEVEL more is not so", new DueWheels().wheels(4, 4, 4, 4), 4);
            is("one LEVEL less is not so", new DueWheels().wheels(4, 4, 0, 0), 2);
            is("another first one", new DueWheels().wheels(5, 4, 4, 0), 3);
            is("another second one", new DueWheels().wheels(4, 5, 4, 0), 3);
            is("another third one", new DueWheels().wheels(4, 4, 5, 0), 3);
            DueWheels x = after(one(16), ticks(14), y -> y.wheels(4, 4, 4, 0));
            lies("nothing is LAID anew", x, 0, 2, 1);
        });
        e.edge(2, "NONE: the first is 0", () -> refused(EdgeKit::busy, NONE, y -> y.wheels(0, 0, 0, 0),
            y -> y.wheels(0, 4, 4, 4), y -> y.wheels(0, 4, 4, 0), y -> y.wheels(0, 0, 0, 4)));
        e.edge(2, "one that counts is not 2 .. 16", () -> {
            for (int wrong : new int[] {1, 17, -1, -2, -16, 18, 1000, Integer.MIN_VALUE, Integer.MAX_VALUE}) {
                refused(EdgeKit::busy, NONE, y -> y.wheels(wrong, 0, 0, 0), y -> y.wheels(wrong, 4, 4, 4),
                    y -> y.wheels(4, wrong, 0, 0), y -> y.wheels(4, wrong, 4, 4), y -> y.wheels(4, 4, wrong, 0),
                    y -> y.wheels(4, 4, wrong, 4), y -> y.wheels(4, 4, 4, wrong));
            }
            for (int right : new int[] {2, 16}) {
                is("first", new DueWheels().wheels(right, 3, 3, 3), 4);
                is("second", new DueWheels().wheels(3, right, 3, 3), 4);
                is("third", new DueWheels().wheels(3, 3, right, 3), 4);
                is("fourth", new DueWheels().wheels(3, 3, 3, right), 4);
            }
        });
        e.edge(2, "one behind a 0 is not 0", () -> {
            for (int behind : new int[] {1, 2, 4, 16, 17, -1, Integer.MIN_VALUE}) {
                refused(EdgeKit::busy, NONE, y -> y.wheels(4, 0, behind, 0), y -> y.wheels(4, 0, 0, behind),
                    y -> y.wheels(4, 4, 0, behind), y -> y.wheels(4, 0, behind, behind));
            }
        });
    }

    private static void tellOrder(Edges e) {
        e.edge(3, "RULE becomes v: what it was.", () -> {
            DueWheels x = new DueWheels();
            is("0 to 2", x.order(2), 0);
            is("it is 2", x.count(6), 2);
            is("2 to 1", x.order(1), 2);
            is("it is 1", x.count(6), 1);
            is("1 to 0", x.order(0), 1);
            is("it is 0", x.count(6), 0);
        });
        e.edge(3, "-2: it is so", () -> {
            refused(EdgeKit::busy, -2, y -> y.order(0));
            refused(() -> after(busy(), y -> y.order(1)), -2, y -> y.order(1));
            refused(() -> after(busy(), y -> y.order(2)), -2, y -> y.order(2));
        });
        e.edge(3, "NONE: v is not 0 .. 2", () -> refused(EdgeKit::busy, NONE, y -> y.order(-1), y -> y.order(3),
            y -> y.order(-2), y -> y.order(Integer.MIN_VALUE), y -> y.order(Integer.MAX_VALUE)));
    }

    private static void tellTicks(Edges e) {
        e.edge(4, "n TICKS (1 .. 100): how many RANG", () -> {
            DueWheels x = ticking();
            is("1", x.ticks(1), 1);
            is("CLOCK", x.count(0), 1);
            is("100", x.ticks(100), 100);
            is("CLOCK", x.count(0), 101);
            DueWheels y = some(2, 2, 9);
            is("none", y.ticks(1), 0);
            is("two at once", y.ticks(1), 2);
            is("the last of these", y.ticks(7), 1);
            is("none is left", y.ticks(100), 0);
        });
        e.edge(4, "the ROW: of the latest 20 of these, one behind another, the TIMER and CLOCK then", () -> {
            DueWheels x = ticking();
            x.ticks(19);
            is("19", x.count(8), 38);
            is("the first of 19", x.row(1), 1);
            x.ticks(20);
            is("20", x.count(8), 40);
            is("the first of 20, none of an earlier call", x.row(1), 20);
            x.ticks(21);
            is("21", x.count(8), 40);
            is("the first of 21 is left out", x.row(1), 41);
            is("the last of 21", x.row(39), 60);
            x.ticks(100);
            is("100", x.count(8), 40);
            is("the oldest of these", x.row(1), 141);
            is("the last of 100", x.row(39), 160);
            DueWheels y = new DueWheels();
            for (int i = 0; i < 16; i++) {
                y.sets(1, 0, 1, 1, 0);
            }
            is("32", y.ticks(2), 32);
            row("the last four of the first TICK, then all", y, 12, 1, 13, 1, 14, 1, 15, 1, 0, 2, 1, 2, 2, 2, 3, 2, 4, 2,
                5, 2, 6, 2, 7, 2, 8, 2, 9, 2, 10, 2, 11, 2, 12, 2, 13, 2, 14, 2, 15, 2);
            DueWheels z = one(2);
            z.ticks(2);
            row("one", z, 0, 2);
            z.ticks(1);
            row("none", z);
        });
        e.edge(4, "-4: CLOCK would pass 1000000000", () -> {
            refused(() -> nearTheEnd(1), -4, ticks(2), ticks(100));
            refused(() -> nearTheEnd(99), -4, ticks(100));
            refused(() -> after(nearTheEnd(1), ticks(1)), -4, ticks(1));
            is("just to it", nearTheEnd(100).ticks(100), 100);
            is("just to it", nearTheEnd(1).ticks(1), 1);
        });
        e.edge(4, "NONE: another n", () -> {
            refused(EdgeKit::busy, NONE, ticks(0), ticks(101), ticks(-1), ticks(-100),
                ticks(Integer.MIN_VALUE), ticks(Integer.MAX_VALUE));
            refused(() -> nearTheEnd(1), NONE, ticks(0), ticks(101),
                ticks(Integer.MAX_VALUE));
        });
    }

    private static void tellLeaps(Edges e) {
        e.edge(5, "A LEAP by n (-1000000 .. 1000000, not 0): how many RANG", () -> {
            DueWheels x = some(1, 2, 1000000);
            is("by 1", x.leaps(1), 1);
            x.sets(1000000, 0, 0, 1, 0);
            is("by 1000000: DUE 1000001 too", x.leaps(1000000), 3);
            is("CLOCK", x.count(0), 1000001);
            is("none is left", x.count(3), 0);
            is("by -1000000", x.leaps(-1000000), 0);
            is("by -1", x.leaps(-1), 0);
            is("CLOCK", x.count(0), 0);
        });
        e.edge(5, "the ROW: of the latest 20 of these the TIMER and what DUE was", () -> {
            DueWheels x = sixteen();
            is("all sixteen", x.leaps(1000), 16);
            is("all are told", x.count(8), 32);
            for (int i = 0; i < 16; i++) {
                is("TIMER", x.row(2 * i), i);
                is("DUE", x.row(2 * i + 1), 101 + i);
            }
            x.leaps(5);
            row("none", x);
            DueWheels y = new DueWheels();
            y.sets(3, 0, 2, 50, 0);
            y.leaps(40);
            row("DUE as it was, not CLOCK nor DUE now", y, 0, 3);
        });
        e.edge(5, "-4: CLOCK would be below 0 or above 1000000000", () -> {
            refused(EdgeKit::busy, -4, y -> y.leaps(-7), y -> y.leaps(-1000000));
            is("just to 0", busy().leaps(-6), 0);
            refused(DueWheels::new, -4, y -> y.leaps(-1));
            refused(() -> nearTheEnd(5), -4, y -> y.leaps(6), y -> y.leaps(1000000));
            is("just to the last", nearTheEnd(5).leaps(5), 1);
        });
        e.edge(5, "NONE: another n", () -> {
            refused(EdgeKit::busy, NONE, y -> y.leaps(0), y -> y.leaps(1000001), y -> y.leaps(-1000001),
                y -> y.leaps(Integer.MIN_VALUE), y -> y.leaps(Integer.MAX_VALUE));
            refused(() -> nearTheEnd(5), NONE, y -> y.leaps(0), y -> y.leaps(1000001),
                y -> y.leaps(Integer.MAX_VALUE));
        });
    }
}
