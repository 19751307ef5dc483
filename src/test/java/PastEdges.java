/** Edges of promises 37 to 40: what was. */
final class PastEdges extends EdgeKit {
    private PastEdges() {
    }

    static void tell(Edges e) {
        tellRung(e);
        tellTold(e);
        tellCount(e);
        tellRow(e);
    }

    private static void tellRung(Edges e) {
        e.edge(37, "What RANG, number i of the latest 40 (0 the oldest): the TIMER; the ROW: CLOCK then, what DUE was, "
            + "GROUP, RANG then.", () -> {
                asked(() -> after(ticking(), ticks(1)), y -> y.rung(0), 0, 1, 1, 0, 1);
                for (int ticks : new int[] {39, 40, 41, 79, 80, 81, 100}) {
                    DueWheels x = after(ticking(), ticks(ticks));
                    int kept = Math.min(ticks, 40);
                    is("kept of " + ticks, x.count(7), kept);
                    for (int i = 0; i < kept; i++) {
                        int clock = ticks - kept + 1 + i;
                        is("number " + i + " of " + ticks, x.rung(i), 0);
                        row("number " + i + " of " + ticks, x, clock, clock, 0, clock);
                    }
                    is("no more of " + ticks, x.rung(kept), NONE);
                }
                DueWheels y = ticking();
                y.sets(2, 7, 0, 1, 0);
                y.leaps(9);
                is("by a LEAP", y.rung(1), 1);
                row("CLOCK is not DUE", y, 9, 2, 7, 1);
                y.cancels(0);
                y.sets(1, 5, 0, 1, 0);
                y.ticks(1);
                is("what is gone is told yet", y.rung(0), 0);
                row("with its own GROUP", y, 9, 1, 0, 1);
                is("what has its number now", y.rung(2), 0);
                row("with its own GROUP", y, 10, 10, 5, 1);
            });
        e.edge(37, "NONE: none such.", () -> {
            refused(DueWheels::new, NONE, y -> y.rung(0), y -> y.rung(-1), y -> y.rung(39));
            refused(EdgeKit::busy, NONE, y -> y.rung(3), y -> y.rung(-1), y -> y.rung(39), y -> y.rung(40),
                y -> y.rung(Integer.MIN_VALUE), y -> y.rung(Integer.MAX_VALUE));
            is("the last there is", busy().rung(2), 1);
            refused(() -> after(ticking(), ticks(100)), NONE, y -> y.rung(40), y -> y.rung(-1),
                y -> y.rung(41), y -> y.rung(100));
            is("the last of 40", after(ticking(), ticks(100)).rung(39), 0);
        });
    }

    private static void tellTold(Edges e) {
        e.edge(38, "3: cancelled (by groups, too)", () -> {
            DueWheels x = sixteen();
            x.cancels(0);
            x.cancels(0);
            is("one", x.told(3), 1);
            x.cancelsAll(7);
            x.cancelsAll(7);
            is("two by groups", x.told(3), 3);
            run(x, "c1;c1");
            is("by run()", x.told(3), 4);
            x.leaps(1000);
            is("what goes as it RINGS is not", x.told(3), 4);
        });
        e.edge(38, "4: LEAPS ahead, all together, 5: back, all together", () -> {
            DueWheels x = new DueWheels();
            x.leaps(-1);
            x.leaps(1000001);
            is("refused ones are none", x.told(4) + x.told(5), 0);
            x.leaps(1000000);
            x.leaps(-3);
            x.leaps(1);
            x.leaps(-999998);
            run(x, "l7;l-5");
            is("ahead", x.told(4), 1000008);
            is("back", x.told(5), 1000006);
            x.would(5);
            x.ticks(5);
            is("TICKS and questions are none", x.told(4), 1000008);
        });
        e.edge(38, "what 0: how many RANG, 1: MOVED, 2: MISSED", () -> {
            DueWheels x = new DueWheels();
            is("none RANG", x.told(0), 0);
            is("none MOVED", x.told(1), 0);
            is("none MISSED", x.told(2), 0);
            x.sets(4, 0, 1, 2, 0);
            x.ticks(4);
            x.leaps(6);
            x.rings(100);
            x.would(100);
            is("RANG", x.told(0), 2);
            is("MOVED", x.told(1), 1);
            is("MISSED", x.told(2), 2);
            x.ticks(100);
            is("more than are kept", x.told(0), 52);
        });
        e.edge(38, "6: set", () -> {
            DueWheels x = sixteen();
            x.sets(1, 0, 0, 1, 0);
            x.sets(0, 0, 0, 1, 0);
            is("refused ones are none", x.told(6), 16);
            x.cancels(3);
            run(x, "s5,0");
            is("by run()", x.told(6), 17);
        });
        e.edge(38, "NONE for another what.", () -> refused(EdgeKit::busy, NONE, y -> y.told(-1), y -> y.told(7),
            y -> y.told(Integer.MIN_VALUE), y -> y.told(Integer.MAX_VALUE)));
    }

    private static void tellCount(Edges e) {
        e.edge(39, "3: TIMERS, 4: PAUSED ones, 5: FAR ones", () -> {
            DueWheels x = sixteen();
            is("TIMERS", x.count(3), 16);
            is("none PAUSED", x.count(4), 0);
            is("all FAR", x.count(5), 16);
            for (int g = 0; g < 8; g++) {
                x.holds(g);
            }
            is("PAUSED ones count", x.count(3), 16);
            is("all PAUSED", x.count(4), 16);
            is("none FAR", x.count(5), 0);
            for (int g = 0; g < 8; g++) {
                x.cancelsAll(g);
            }
            is("none", x.count(3) + x.count(4) + x.count(5), 0);
        });
        e.edge(39, "6: RULE", () -> {
            DueWheels x = new DueWheels();
            is("at first", x.count(6), 0);
            for (int rule : new int[] {2, 1, 0}) {
                x.order(rule);
                is("RULE", x.count(6), rule);
                x.order(3);
                x.order(-1);
                is("a refused one is none", x.count(6), rule);
            }
        });
        e.edge(39, "7: numbers of what RANG that are kept", () -> {
            DueWheels x = ticking();
            is("none", x.count(7), 0);
            x.ticks(1);
            is("one", x.count(7), 1);
            x.ticks(38);
            is("39", x.count(7), 39);
            x.ticks(1);
            is("40", x.count(7), 40);
            x.ticks(1);
            is("40 of 41", x.count(7), 40);
            x.ticks(100);
            is("40 of 141", x.count(7), 40);
        });
        e.edge(39, "8: numbers of the ROW, 9: signs of THE TEXT", () -> {
            DueWheels x = new DueWheels();
            is("no ROW", x.count(8), 0);
            is("no TEXT", x.count(9), 0);
            x.loudest(5);
            is("refused: no ROW", x.count(8), 0);
            x.sets(1, 0, 1, 1, 0);
            x.ticks(100);
            is("the longest ROW", x.count(8), 40);
            x.far();
            is("an empty ROW", x.count(8), 0);
            for (int i = 0; i < 30; i++) {
                x.sign(0);
            }
            is("a hundred signs", x.count(9), 100);
            x.end(7);
            is("seven", x.count(9), 7);
            x.run();
            is("none", x.count(9), 0);
        });
        e.edge(39, "10 .. 13: SIZE of LEVEL what less 10 (0 without)", () -> {
            DueWheels x = new DueWheels();
            int[][] all = {{4, 4, 4, 0}, {2, 0, 0, 0}, {16, 2, 0, 0}, {3, 5, 7, 0}, {2, 3, 4, 16}, {5, 0, 0, 0}};
            for (int[] sizes : all) {
                x.wheels(sizes[0], sizes[1], sizes[2], sizes[3]);
                for (int k = 0; k < 4; k++) {
                    is("LEVEL " + k, x.count(10 + k), sizes[k]);
                }
            }
        });
        e.edge(39, "What 0: CLOCK, 1: LEVELS, 2: WHOLE", () -> {
            DueWheels x = new DueWheels();
            is("CLOCK", x.count(0), 0);
            x.leaps(1000000);
            is("CLOCK", x.count(0), 1000000);
            is("LEVELS", x.count(1), 3);
            x.wheels(16, 16, 16, 16);
            is("LEVELS", x.count(1), 4);
            is("WHOLE", x.count(2), 65536);
            x.wheels(2, 0, 0, 0);
            is("LEVELS", x.count(1), 1);
            is("WHOLE", x.count(2), 2);
        });
        e.edge(39, "NONE for another what.", () -> refused(EdgeKit::busy, NONE, y -> y.count(-1), y -> y.count(14),
            y -> y.count(Integer.MIN_VALUE), y -> y.count(Integer.MAX_VALUE)));
    }

    private static void tellRow(Edges e) {
        e.edge(40, "Number i of the ROW.", () -> {
            DueWheels x = after(ticking(), ticks(100));
            is("the first", x.row(0), 0);
            is("the second", x.row(1), 81);
            is("the last", x.row(39), 100);
            x.cancels(0);
            x.sets(50, 0, 0, 1, 0);
            x.delays(0, 1);
            is("one below 0", x.row(0), -49);
        });
        e.edge(40, "NoSuchElementException: none such.", () -> {
            noSuch(DueWheels::new, y -> y.row(0), y -> y.row(-1), y -> y.row(1));
            noSuch(EdgeKit::busy, y -> y.row(3), y -> y.row(-1), y -> y.row(39), y -> y.row(40),
                y -> y.row(Integer.MIN_VALUE), y -> y.row(Integer.MAX_VALUE));
            is("the last there is", busy().row(2), 5);
            noSuch(() -> after(ticking(), ticks(100)), y -> y.row(40), y -> y.row(-1));
            noSuch(() -> after(busy(), y -> y.group(0)), y -> y.row(0), y -> y.row(2));
        });
    }
}
