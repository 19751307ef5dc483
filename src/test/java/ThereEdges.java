/** Edges of promises 19 to 23: what there is. */
final class ThereEdges extends EdgeKit {
    private ThereEdges() {
    }

    static void tell(Edges e) {
        tellTimer(e);
        tellSlot(e);
        tellFar(e);
        tellGroup(e);
        tellFull(e);
    }

    private static void tellTimer(Edges e) {
        e.edge(19, "what 0: DUE (of a PAUSED one CLOCK and REST)", () -> {
            DueWheels x = some(9, 9);
            x.pauses(1);
            is("DUE", x.timer(0, 0), 9);
            is("at once", x.timer(1, 0), 9);
            x.ticks(4);
            is("DUE", x.timer(0, 0), 9);
            is("4 later", x.timer(1, 0), 13);
            x.leaps(-4);
            is("back", x.timer(1, 0), 9);
        });
        e.edge(19, "1: its LEVEL (NONE: it is FAR; -2: PAUSED)", () -> {
            DueWheels x = some(1, 4, 16, 64, 1, 64);
            x.pauses(4);
            x.pauses(5);
            int[] levels = {0, 1, 2, NONE, -2, -2};
            for (int i = 0; i < levels.length; i++) {
                is("LEVEL of " + i, x.timer(i, 1), levels[i]);
            }
            DueWheels y = some(64);
            y.wheels(4, 4, 4, 4);
            is("the highest there can be", y.timer(0, 1), 3);
        });
        e.edge(19, "2: its SLOT (NONE, -2 likewise)", () -> {
            DueWheels x = some(3, 15, 63, 64, 1, 64);
            x.pauses(4);
            x.pauses(5);
            int[] slots = {3, 3, 3, NONE, -2, -2};
            for (int i = 0; i < slots.length; i++) {
                is("SLOT of " + i, x.timer(i, 2), slots[i]);
            }
        });
        e.edge(19, "3: ARRIVAL, 4: GROUP, 5: SORT, 6: PERIOD, 7: TIMES, 8: RANG", () -> {
            DueWheels x = some(1, 9);
            x.ticks(1);
            is("the number that is free", x.sets(2, 7, 3, 600, 99), 0);
            long[] before = {2, 7, 3, 600, 99, 0};
            long[] after = {2, 7, 3, 1000, 98, 1};
            for (int what = 3; what <= 8; what++) {
                is("what " + what, x.timer(0, what), before[what - 3]);
            }
            x.ticks(2);
            for (int what = 3; what <= 8; what++) {
                is("as it rang, what " + what, x.timer(0, what), after[what - 3]);
            }
            x.pauses(0);
            for (int what = 3; what <= 8; what++) {
                is("PAUSED, what " + what, x.timer(0, what), after[what - 3]);
            }
        });
        e.edge(19, "9: 1 if it is STEADY, else 0", () -> {
            DueWheels x = some(3, 3);
            x.steady(1, true);
            is("not", x.timer(0, 9), 0);
            is("STEADY", x.timer(1, 9), 1);
        });
        e.edge(19, "10: REST (NONE: it is not PAUSED)", () -> {
            DueWheels x = some(3, 1000000);
            is("not", x.timer(0, 10), NONE);
            x.ticks(2);
            x.pauses(0);
            x.pauses(1);
            is("1", x.timer(0, 10), 1);
            is("999998", x.timer(1, 10), 999998);
            x.resumes(0);
            is("no more", x.timer(0, 10), NONE);
        });
        e.edge(19, "NoSuchElementException: none such", () -> {
            for (int what = 0; what <= 10; what++) {
                int of = what;
                noSuch(EdgeKit::busy, y -> y.timer(-1, of), y -> y.timer(6, of), y -> y.timer(15, of),
                    y -> y.timer(16, of), y -> y.timer(Integer.MIN_VALUE, of), y -> y.timer(Integer.MAX_VALUE, of));
            }
            noSuch(() -> after(busy(), y -> y.cancels(2)), y -> y.timer(2, 0));
            noSuch(() -> after(busy(), y -> y.leaps(24)), y -> y.timer(2, 0));
            noSuch(DueWheels::new, y -> y.timer(0, 0));
        });
        e.edge(19, "another what", () -> noSuch(EdgeKit::busy, y -> y.timer(0, -1), y -> y.timer(0, 11),
            y -> y.timer(5, -2), y -> y.timer(0, Integer.MIN_VALUE), y -> y.timer(0, Integer.MAX_VALUE),
            y -> y.timer(-1, -1), y -> y.timer(16, 11)));
    }

    private static void tellSlot(Edges e) {
        e.edge(20, "TIMERS in a SLOT of a LEVEL: how many; the ROW: they, in ORDER.", () -> {
            asked(() -> some(19, 17, 18, 3, 70), y -> y.slot(2, 1), 3, 0, 1, 2);
            asked(() -> after(some(19, 17, 18), y -> y.order(2)), y -> y.slot(2, 1), 3, 2, 1, 0);
            asked(() -> some(3), y -> y.slot(0, 0), 0);
            asked(() -> some(3), y -> y.slot(0, 3), 1, 0);
            asked(() -> after(some(3), y -> y.pauses(0)), y -> y.slot(0, 3), 0);
            DueWheels x = new DueWheels();
            for (int i = 0; i < 16; i++) {
                x.sets(48 + i, 7 - i / 2, 0, 1, 0);
            }
            is("all sixteen in one", x.slot(2, 3), 16);
            is("the last", x.row(15), 15);
            x.order(1);
            x.slot(2, 3);
            row("by GROUPS", x, 14, 15, 12, 13, 10, 11, 8, 9, 6, 7, 4, 5, 2, 3, 0, 1);
        });
        e.edge(20, "NONE: no such one.", () -> {
            refused(EdgeKit::busy, NONE, y -> y.slot(-1, 0), y -> y.slot(3, 0), y -> y.slot(4, 0),
                y -> y.slot(0, -1), y -> y.slot(0, 4), y -> y.slot(2, 4), y -> y.slot(2, 16), y -> y.slot(-1, -1),
                y -> y.slot(-2, -2), y -> y.slot(Integer.MIN_VALUE, 0), y -> y.slot(Integer.MAX_VALUE, 0),
                y -> y.slot(0, Integer.MIN_VALUE), y -> y.slot(0, Integer.MAX_VALUE));
            DueWheels x = new DueWheels();
            x.wheels(16, 2, 0, 0);
            is("SLOT 15 of LEVEL 0", x.slot(0, 15), 0);
            is("no SLOT 16 of it", x.slot(0, 16), NONE);
            is("SLOT 1 of LEVEL 1", x.slot(1, 1), 0);
            is("no SLOT 2 of it", x.slot(1, 2), NONE);
            is("no LEVEL 2", x.slot(2, 0), NONE);
            x.wheels(2, 2, 2, 16);
            is("SLOT 15 of LEVEL 3", x.slot(3, 15), 0);
            is("no LEVEL 4", x.slot(4, 0), NONE);
        });
    }

    private static void tellFar(Edges e) {
        e.edge(21, "TIMERS that are FAR: how many; the ROW: they, the least DUE first, of one DUE the least ARRIVAL.",
            () -> {
                asked(DueWheels::new, y -> y.far(), 0);
                asked(() -> some(63), y -> y.far(), 0);
                asked(() -> some(64), y -> y.far(), 1, 0);
                asked(() -> some(66, 64, 66, 65), y -> y.far(), 4, 1, 3, 0, 2);
                asked(() -> after(some(66, 64, 66, 65), y -> y.order(2)), y -> y.far(), 4, 1, 3, 0, 2);
                asked(() -> after(some(66, 64), y -> y.pauses(1)), y -> y.far(), 1, 0);
                DueWheels x = new DueWheels();
                x.sets(64, 7, 0, 1, 0);
                x.sets(64, 0, 0, 1, 0);
                x.sets(64, 5, 0, 1, 0);
                x.cancels(0);
                x.sets(64, 1, 0, 1, 0);
                x.order(1);
                is("three", x.far(), 3);
                row("by ARRIVAL, not by number nor by GROUP", x, 1, 2, 0);
                x.ticks(5);
                is("D below WHOLE, but not yet LAID", x.far(), 3);
                is("all sixteen", sixteen().far(), 16);
            });
    }

    private static void tellGroup(Edges e) {
        e.edge(22, "TIMERS of a GROUP: how many; the ROW: they, by numbers.", () -> {
            asked(EdgeKit::sixteen, y -> y.group(0), 2, 0, 8);
            asked(EdgeKit::sixteen, y -> y.group(7), 2, 7, 15);
            asked(EdgeKit::busy, y -> y.group(0), 0);
            asked(EdgeKit::busy, y -> y.group(3), 3, 3, 4, 5);
            asked(() -> after(busy(), y -> y.order(2)), y -> y.group(3), 3, 3, 4, 5);
            DueWheels x = some(5, 6, 7);
            x.cancels(0);
            x.sets(1, 0, 0, 1, 0);
            is("three", x.group(0), 3);
            row("by numbers, not by ARRIVAL", x, 0, 1, 2);
            DueWheels y = new DueWheels();
            for (int i = 0; i < 16; i++) {
                y.sets(5, 4, 0, 1, 0);
            }
            is("all sixteen", y.group(4), 16);
            is("the last", y.row(15), 15);
        });
        e.edge(22, "NONE: no such GROUP.", () -> refused(EdgeKit::busy, NONE, y -> y.group(-1), y -> y.group(8),
            y -> y.group(Integer.MIN_VALUE), y -> y.group(Integer.MAX_VALUE)));
    }

    private static void tellFull(Edges e) {
        e.edge(23, "SLOTS of a LEVEL that are not empty: how many; the ROW: they (by numbers), the TIMERS of the LEVEL "
            + "together behind them.", () -> {
                asked(DueWheels::new, y -> y.full(0), 0, 0);
                asked(() -> some(64), y -> y.full(2), 0, 0);
                asked(() -> some(3, 1, 3), y -> y.full(0), 2, 1, 3, 3);
                asked(() -> some(60, 20), y -> y.full(2), 2, 1, 3, 2);
                asked(() -> after(some(3, 1), y -> y.pauses(0)), y -> y.full(0), 1, 1, 1);
                DueWheels x = after(new DueWheels(), y -> y.wheels(16, 0, 0, 0), ticks(3));
                for (int delay = 1; delay < 16; delay++) {
                    x.sets(delay, 0, 0, 1, 0);
                }
                is("fifteen of sixteen", x.full(0), 15);
                row("but for the one of CLOCK", x, 0, 1, 2, 4, 5, 6, 7, 8, 9, 10, 11, 12, 13, 14, 15, 15);
                DueWheels y = after(new DueWheels(), z -> z.wheels(2, 16, 0, 0), ticks(1));
                for (int i = 0; i < 16; i++) {
                    y.sets(2 * i + 2, 0, 0, 1, 0);
                }
                is("DUE 33 is far, SLOT 0 is empty", y.full(1), 15);
                row("DUE 33 is far", y, 1, 2, 3, 4, 5, 6, 7, 8, 9, 10, 11, 12, 13, 14, 15, 15);
                y.delays(15, 31);
                is("all sixteen of LEVEL 1", y.full(1), 16);
                row("once round", y, 0, 1, 2, 3, 4, 5, 6, 7, 8, 9, 10, 11, 12, 13, 14, 15, 16);
            });
        e.edge(23, "NONE: no such LEVEL.", () -> {
            refused(EdgeKit::busy, NONE, y -> y.full(-1), y -> y.full(3), y -> y.full(4), y -> y.full(-2),
                y -> y.full(Integer.MIN_VALUE), y -> y.full(Integer.MAX_VALUE));
            refused(() -> after(busy(), y -> y.wheels(2, 0, 0, 0)), NONE, y -> y.full(1));
            is("LEVEL 3 of four", after(new DueWheels(), y -> y.wheels(2, 2, 2, 2)).full(3), 0);
            is("no LEVEL 4", after(new DueWheels(), y -> y.wheels(2, 2, 2, 2)).full(4), NONE);
        });
    }
}
