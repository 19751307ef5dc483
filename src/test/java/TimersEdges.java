/** Edges of promises 6 to 18: timers. */
final class TimersEdges extends EdgeKit {
    private TimersEdges() {
    }

    static void tell(Edges e) {
        tellSets(e);
        tellCancels(e);
        tellSteady(e);
        tellPauses(e);
        tellGroups(e);
        tellSpreads(e);
        tellDelays(e);
        RunEdges.tell(e);
        tellSign(e);
        tellEnd(e);
    }

    private static void tellSets(Edges e) {
        e.edge(6, "DUE is CLOCK and delay (1 .. 1000000): its number.", () -> {
            DueWheels x = after(new DueWheels(), ticks(3));
            is("the least", x.sets(1, 0, 0, 1, 0), 0);
            is("DUE", x.timer(0, 0), 4);
            is("the greatest", x.sets(1000000, 0, 0, 1, 0), 1);
            is("DUE", x.timer(1, 0), 1000003);
            is("RINGS", x.ticks(1), 1);
            is("not yet", x.leaps(999998), 0);
            is("RINGS", x.ticks(1), 1);
        });
        e.edge(6, "A TIMER is set and LAID", () -> {
            DueWheels x = after(new DueWheels(), ticks(3));
            x.sets(3, 7, 3, 1000, 99);
            lies("DUE 6", x, 0, 0, 2);
            is("ARRIVAL", x.timer(0, 3), 0);
            is("GROUP", x.timer(0, 4), 7);
            is("SORT", x.timer(0, 5), 3);
            is("PERIOD", x.timer(0, 6), 1000);
            is("TIMES", x.timer(0, 7), 99);
            x.sets(1, 0, 0, 1, 0);
            is("the least GROUP", x.timer(1, 4), 0);
            is("the least SORT", x.timer(1, 5), 0);
            is("the least PERIOD", x.timer(1, 6), 1);
            is("the least TIMES", x.timer(1, 7), 0);
            is("set so far", x.told(6), 2);
        });
        e.edge(6, "-3: there are 16", () -> {
            refused(EdgeKit::sixteen, -3, y -> y.sets(1, 0, 0, 1, 0), y -> y.sets(1000000, 7, 3, 1000, 99));
            refused(() -> after(sixteen(), y -> y.holds(0)), -3, y -> y.sets(1, 0, 0, 1, 0));
            is("as one is gone there is room", after(sixteen(), y -> y.cancels(15)).sets(1, 0, 0, 1, 0), 15);
            DueWheels x = sixteen();
            x.cancels(0);
            is("fifteen: one more", x.sets(1, 0, 0, 1, 0), 0);
            is("sixteen: none", x.sets(1, 0, 0, 1, 0), -3);
        });
        e.edge(6, "NONE: another delay", () -> {
            noneEach(NO_DELAYS, v -> y -> y.sets(v, 0, 0, 1, 0));
            refused(EdgeKit::sixteen, NONE, y -> y.sets(0, 0, 0, 1, 0), y -> y.sets(1000001, 0, 0, 1, 0));
        });
        e.edge(6, "NONE: another delay, GROUP", () -> {
            noneEach(NO_GROUPS, v -> y -> y.sets(1, v, 0, 1, 0));
            refused(EdgeKit::sixteen, NONE, y -> y.sets(1, 8, 0, 1, 0));
        });
        e.edge(6, "NONE: another delay, GROUP, SORT", () -> {
            noneEach(new int[] {-1, 4, Integer.MIN_VALUE, Integer.MAX_VALUE}, v -> y -> y.sets(1, 0, v, 1, 0));
            refused(EdgeKit::sixteen, NONE, y -> y.sets(1, 0, 4, 1, 0));
        });
        e.edge(6, "NONE: another delay, GROUP, SORT, PERIOD", () -> {
            for (int sort = 0; sort < 4; sort++) {
                int of = sort;
                noneEach(new int[] {0, -1, 1001, Integer.MIN_VALUE, Integer.MAX_VALUE}, v -> y -> y.sets(1, 0, of, v, 0));
            }
            refused(EdgeKit::sixteen, NONE, y -> y.sets(1, 0, 0, 0, 0));
        });
        e.edge(6, "times not 0 .. 99", () -> {
            for (int sort = 0; sort < 4; sort++) {
                int of = sort;
                noneEach(new int[] {-1, 100, Integer.MIN_VALUE, Integer.MAX_VALUE}, v -> y -> y.sets(1, 0, of, 1, v));
            }
            refused(EdgeKit::sixteen, NONE, y -> y.sets(1, 0, 0, 1, 100));
        });
    }

    private static void tellCancels(Edges e) {
        e.edge(7, "A TIMER goes: how many are left.", () -> {
            DueWheels x = sixteen();
            is("the first", x.cancels(0), 15);
            is("the last", x.cancels(15), 14);
            x.pauses(3);
            is("a PAUSED one", x.cancels(3), 13);
            is("PAUSED ones", x.count(4), 0);
            for (int left = 12, t = 1; t < 15; t++) {
                if (t != 3) {
                    is("one more", x.cancels(t), left--);
                }
            }
            is("none is left", x.count(3), 0);
            is("none lies anywhere", x.far() + x.full(0) + x.full(1) + x.full(2), 0);
            is("none RINGS", x.leaps(1000), 0);
            is("told", x.told(3), 16);
        });
        e.edge(7, "NONE: none such.", () -> {
            noneEach(NO_TIMERS, v -> y -> y.cancels(v));
            refused(() -> after(busy(), y -> y.cancels(2)), NONE, y -> y.cancels(2));
            refused(() -> after(busy(), ticks(24)), NONE, y -> y.cancels(2));
            refused(DueWheels::new, NONE, y -> y.cancels(0));
        });
        e.edge(8, "All TIMERS of a GROUP go: how many.", () -> {
            DueWheels x = sixteen();
            x.pauses(0);
            is("GROUP 0, one PAUSED", x.cancelsAll(0), 2);
            is("GROUP 7", x.cancelsAll(7), 2);
            is("none is left in it", x.cancelsAll(7), 0);
            is("the others are", x.count(3), 12);
            is("told", x.told(3), 4);
            DueWheels y = new DueWheels();
            for (int i = 0; i < 16; i++) {
                y.sets(5, 4, 0, 1, 0);
            }
            is("all sixteen", y.cancelsAll(4), 16);
            is("none RINGS", y.ticks(9), 0);
            is("none at all", y.cancelsAll(4), 0);
        });
        e.edge(8, "NONE: no such GROUP.", () -> noneEach(NO_GROUPS, v -> y -> y.cancelsAll(v)));
    }

    private static void tellSteady(Edges e) {
        e.edge(9, "A TIMER is STEADY (is true), or not: 1 if it was, else 0.", () -> {
            DueWheels x = sixteen();
            is("it was not", x.steady(15, true), 0);
            is("it is", x.timer(15, 9), 1);
            is("another is not", x.timer(14, 9), 0);
            is("it was", x.steady(15, false), 1);
            is("it is not", x.timer(15, 9), 0);
            x.pauses(0);
            is("a PAUSED one", x.steady(0, true), 0);
            is("it is", x.timer(0, 9), 1);
        });
        e.edge(9, "-2: it is so", () -> refused(EdgeKit::busy, -2, y -> y.steady(4, true),
            y -> y.steady(0, false), y -> y.steady(5, false)));
        e.edge(9, "NONE: none such.", () -> {
            noneEach(NO_TIMERS, v -> y -> y.steady(v, true));
            noneEach(NO_TIMERS, v -> y -> y.steady(v, false));
            refused(() -> after(busy(), y -> y.cancels(4)), NONE, y -> y.steady(4, true),
                y -> y.steady(4, false));
        });
    }

    private static void tellPauses(Edges e) {
        e.edge(10, "A TIMER is PAUSED: its REST.", () -> {
            DueWheels x = some(4, 1000000);
            x.ticks(3);
            is("the least", x.pauses(0), 1);
            is("a far one", x.pauses(1), 999997);
            is("PAUSED ones", x.count(4), 2);
            DueWheels y = after(some(4, 9), z -> z.steady(1, true), z -> z.leaps(3), z -> z.leaps(-2));
            is("after a LEAP back, DUE as it was", y.pauses(0), 3);
            is("of a STEADY one D as it was", y.pauses(1), 9);
        });
        e.edge(10, "NONE: none such.", () -> {
            noneEach(NO_TIMERS, v -> y -> y.pauses(v));
            refused(() -> after(busy(), ticks(24)), NONE, y -> y.pauses(2));
        });
        e.edge(10, "-2: it is", () -> {
            refused(EdgeKit::busy, -2, y -> y.pauses(5));
            refused(() -> after(busy(), y -> y.holds(2)), -2, y -> y.pauses(1), y -> y.pauses(2));
            refused(() -> after(busy(), ticks(50)), -2, y -> y.pauses(5));
        });
        e.edge(11, "A TIMER is PAUSED no more: DUE is CLOCK and its REST, it is LAID: DUE.", () -> {
            DueWheels x = some(4, 70, 4);
            x.ticks(3);
            x.pauses(0);
            x.pauses(1);
            is("at once", x.resumes(0), 4);
            lies("it is LAID", x, 0, 0, 0);
            x.pauses(0);
            x.ticks(60);
            is("CLOCK 63, REST 1", x.resumes(0), 64);
            lies("it is LAID", x, 0, 0, 0);
            is("CLOCK 63, REST 67", x.resumes(1), 130);
            lies("it is FAR", x, 1, NONE, NONE);
            is("no PAUSED ones", x.count(4), 0);
            is("no REST", x.timer(0, 10), NONE);
            is("RINGS at the next TICK", x.ticks(1), 1);
            row("it", x, 0, 64);
            x.pauses(1);
            x.leaps(-64);
            is("CLOCK 0, REST 66", x.resumes(1), 66);
        });
        e.edge(11, "-2: it is not PAUSED", () -> {
            refused(EdgeKit::busy, -2, y -> y.resumes(0), y -> y.resumes(3), y -> y.resumes(4));
            refused(() -> after(busy(), y -> y.resumes(5)), -2, y -> y.resumes(5));
        });
        e.edge(11, "NONE: none such.", () -> {
            noneEach(NO_TIMERS, v -> y -> y.resumes(v));
            refused(() -> after(busy(), y -> y.cancels(5)), NONE, y -> y.resumes(5));
        });
    }

    private static void tellGroups(Edges e) {
        e.edge(12, "All of a GROUP that are not PAUSED are PAUSED: how many.", () -> {
            DueWheels x = sixteen();
            is("GROUP 0", x.holds(0), 2);
            is("GROUP 7", x.holds(7), 2);
            is("they are so", x.holds(7), 0);
            x.pauses(1);
            x.ticks(4);
            is("the other one alone", x.holds(1), 1);
            is("REST of the one as it was", x.timer(1, 10), 102);
            is("REST of the other", x.timer(9, 10), 106);
            is("PAUSED ones", x.count(4), 6);
            is("of none", new DueWheels().holds(0), 0);
            is("the others RING", x.leaps(1000), 10);
        });
        e.edge(12, "NONE: no such GROUP.", () -> noneEach(NO_GROUPS, v -> y -> y.holds(v)));
        e.edge(13, "All of a GROUP that are PAUSED are so no more, as resumes(): how many.", () -> {
            DueWheels x = sixteen();
            x.holds(0);
            x.holds(7);
            x.pauses(1);
            x.ticks(10);
            is("GROUP 7", x.goesOn(7), 2);
            is("they are so", x.goesOn(7), 0);
            is("DUE", x.timer(7, 0), 118);
            is("DUE", x.timer(15, 0), 126);
            lies("LAID", x, 7, NONE, NONE);
            is("the one alone", x.goesOn(1), 1);
            is("DUE of the other as it was", x.timer(9, 0), 110);
            is("GROUP 0", x.goesOn(0), 2);
            is("DUE", x.timer(0, 0), 111);
            is("none is PAUSED", x.count(4), 0);
            is("of none", new DueWheels().goesOn(7), 0);
        });
        e.edge(13, "NONE: no such GROUP.", () -> noneEach(NO_GROUPS, v -> y -> y.goesOn(v)));
    }

    private static DueWheels sixteenOfOneGroup() {
        DueWheels x = new DueWheels();
        for (int i = 0; i < 16; i++) {
            x.sets(7, 5, 0, 1, 0);
        }
        return x;
    }

    private static void tellSpreads(Edges e) {
        e.edge(14, "in the order of their DUES (of one DUE in ORDER), the first stays, each other one has DUE gap "
            + "(0 .. 1000) behind the one ahead of it", () -> {
                DueWheels x = some(40, 30, 40, 30);
                is("gap 1000", x.spreads(0, 1000), 3);
                for (int i = 0; i < 4; i++) {
                    is("DUE of " + i, x.timer(i, 0), new int[] {2030, 30, 3030, 1030}[i]);
                }
                row("the last", x, 3030);
                is("gap 0", x.spreads(0, 0), 3);
                row("all at once", x, 30);
                is("at once", x.ticks(30), 4);
                DueWheels y = some(40, 30, 40, 30);
                y.order(2);
                is("gap 1, by RULE 2", y.spreads(0, 1), 3);
                for (int i = 0; i < 4; i++) {
                    is("DUE of " + i, y.timer(i, 0), new int[] {33, 31, 32, 30}[i]);
                }
            });
        e.edge(14, "they are LAID anew: how many have another DUE than they had", () -> {
            DueWheels x = some(16, 17, 70);
            x.ticks(14);
            is("the second has what it had", x.spreads(0, 1), 1);
            row("the last", x, 18);
            lies("the first, LAID anew", x, 0, 0, 0);
            lies("the second, LAID anew", x, 1, 0, 1);
            lies("the third, LAID anew", x, 2, 1, 0);
            is("all as they were", x.spreads(0, 1), 0);
            row("the last", x, 18);
            is("not MOVED", x.told(1), 0);
        });
        e.edge(14, "TIMERS of a GROUP that are not PAUSED are put apart", () -> {
            DueWheels x = some(10, 20, 30, 5);
            x.sets(21, 1, 0, 1, 0);
            x.pauses(3);
            is("two of three", x.spreads(0, 3), 2);
            row("the last", x, 16);
            is("the PAUSED one is as it was", x.timer(3, 10), 5);
            is("another GROUP too", x.timer(4, 0), 21);
        });
        e.edge(14, "the ROW: DUE of the last one.", () -> {
            DueWheels x = some(9, 4);
            x.spreads(0, 0);
            row("gap 0", x, 4);
            DueWheels y = sixteenOfOneGroup();
            is("all but the first", y.spreads(5, 1000), 15);
            row("the greatest gap, sixteen", y, 7 + 15 * 1000);
            is("it is the last one's", y.timer(15, 0), 15007);
            y.order(2);
            y.spreads(5, 0);
            is("by RULE 2, of one DUE", y.spreads(5, 1), 15);
            row("the one set first is the last", y, 22);
            is("it is the last one's", y.timer(0, 0), 22);
        });
        e.edge(14, "-2: there are fewer than two", () -> {
            refused(EdgeKit::busy, -2, y -> y.spreads(0, 0), y -> y.spreads(1, 1000), y -> y.spreads(7, 5));
            refused(() -> after(busy(), y -> y.pauses(4)), -2, y -> y.spreads(3, 5));
            refused(() -> after(busy(), y -> y.holds(2)), -2, y -> y.spreads(2, 5));
            is("two", busy().spreads(3, 5), 1);
        });
        e.edge(14, "NONE: no such GROUP, gap", () -> {
            noneEach(NO_GROUPS, v -> y -> y.spreads(v, 1));
            noneEach(new int[] {-1, 1001, Integer.MIN_VALUE, Integer.MAX_VALUE}, v -> y -> y.spreads(3, v));
            noneEach(new int[] {-1, 1001}, v -> y -> y.spreads(0, v));
        });
    }

    private static void tellDelays(Edges e) {
        e.edge(15, "DUE of a TIMER becomes CLOCK and delay (1 .. 1000000), it is LAID anew", () -> {
            DueWheels x = some(70);
            x.ticks(5);
            is("the least", x.delays(0, 1), 0);
            is("DUE", x.timer(0, 0), 6);
            lies("LAID anew", x, 0, 0, 2);
            is("the greatest", x.delays(0, 1000000), 0);
            is("DUE", x.timer(0, 0), 1000005);
            lies("LAID anew", x, 0, NONE, NONE);
            is("not MOVED", x.told(1), 0);
            is("by one", x.delays(0, 999999), 0);
            x.delays(0, 1);
            is("RINGS", x.ticks(1), 1);
        });
        e.edge(15, "(of a PAUSED one REST becomes that): 0", () -> {
            DueWheels x = some(70);
            x.pauses(0);
            x.ticks(5);
            is("the least", x.delays(0, 1), 0);
            row("sooner", x, -69);
            is("REST", x.timer(0, 10), 1);
            lies("PAUSED", x, 0, -2, -2);
            is("the greatest", x.delays(0, 1000000), 0);
            row("later", x, 999999);
            is("REST", x.timer(0, 10), 1000000);
            is("DUE as it goes on", x.resumes(0), 1000005);
        });
        e.edge(15, "the ROW: by how much later that is (below 0: sooner)", () -> {
            DueWheels x = some(70);
            x.ticks(5);
            x.delays(0, 66);
            row("by one", x, 1);
            x.delays(0, 65);
            row("sooner by one", x, -1);
            x.delays(0, 1000000);
            row("later", x, 999935);
            x.delays(0, 1);
            row("sooner", x, -999999);
        });
        e.edge(15, "-2: it is so", () -> {
            refused(EdgeKit::busy, -2, y -> y.delays(2, 24), y -> y.delays(3, 84), y -> y.delays(5, 6));
            refused(() -> after(busy(), ticks(1)), -2, y -> y.delays(2, 23),
                y -> y.delays(5, 6));
            DueWheels x = after(one(16), ticks(14), y -> y.delays(0, 2));
            lies("it is not LAID anew", x, 0, 2, 1);
        });
        e.edge(15, "NONE: none such, another delay", () -> {
            noneEach(NO_TIMERS, v -> y -> y.delays(v, 1));
            for (int timer : new int[] {0, 3, 5}) {
                noneEach(NO_DELAYS, v -> y -> y.delays(timer, v));
            }
        });
    }

    private static void tellSign(Edges e) {
        e.edge(17, "Four signs come behind THE TEXT, of v the highest byte first: how many it has.", () -> {
            DueWheels x = new DueWheels();
            is("four", x.sign('t' << 24 | '3' << 16 | ';' << 8 | 'l'), 4);
            is("eight", x.sign('1' << 24 | '0' << 16 | ';' << 8 | 't'), 8);
            x.sign('1' << 24);
            x.end(9);
            is("all are done", x.run(), 3);
            is("CLOCK", x.count(0), 14);
            for (int v : new int[] {0, -1, Integer.MIN_VALUE, Integer.MAX_VALUE}) {
                is("four signs of any value", new DueWheels().sign(v), 4);
            }
            DueWheels y = new DueWheels();
            y.sign('t' << 24 | 0xB1 << 16);
            is("of a byte above 127 no digit is made", y.run(), -2);
        });
        e.edge(17, "Refused: there would be more than 100.", () -> {
            DueWheels x = new DueWheels();
            for (int i = 1; i <= 25; i++) {
                is("up to 100", x.sign(0x74313B74), 4 * i);
            }
            refused(() -> hundred(100), NONE, y -> y.sign(0), y -> y.sign(-1));
            refused(() -> hundred(97), NONE, y -> y.sign(0));
            refused(() -> hundred(99), NONE, y -> y.sign(0));
            is("96 and four", hundred(96).sign(0), 100);
            is("a run() makes room", after(hundred(100), y -> y.run()).sign(0), 4);
        });
    }

    /** A text that is cut to so many of a hundred signs. */
    private static DueWheels hundred(int n) {
        DueWheels x = one(3);
        x.group(0);
        for (int i = 0; i < 25; i++) {
            x.sign('t' << 24 | '1' << 16 | ';' << 8 | 't');
        }
        x.end(n);
        return x;
    }

    private static void tellEnd(Edges e) {
        e.edge(18, "THE TEXT has its first n signs alone: true", () -> {
            DueWheels x = new DueWheels();
            Check.is("0 of none", x.end(0), true);
            x.sign('t' << 24 | '1' << 16 | ';' << 8 | 'x');
            Check.is("all", x.end(4), true);
            is("four", x.count(9), 4);
            Check.is("two", x.end(2), true);
            is("two", x.count(9), 2);
            is("the first ones", x.run(), 1);
            x.sign('t' << 24 | '1' << 16);
            Check.is("none", x.end(0), true);
            is("none", x.count(9), 0);
            is("the rest is gone", x.run(), 0);
            x.sign('t' << 24 | '2' << 16 | 'x' << 8 | 'x');
            x.end(2);
            x.sign(';' << 24 | 't' << 16 | '3' << 8);
            x.end(5);
            is("signs come behind what is left", x.run(), 2);
            is("CLOCK", x.count(0), 6);
            Check.is("a hundred", hundred(100).end(100), true);
        });
        e.edge(18, "false if it has not so many, or n is below 0", () -> {
            Call[] calls = {y -> y.end(6) ? 1 : 0, y -> y.end(101) ? 1 : 0,
                y -> y.end(Integer.MAX_VALUE) ? 1 : 0, y -> y.end(-1) ? 1 : 0, y -> y.end(Integer.MIN_VALUE) ? 1 : 0};
            refused(EdgeKit::busy, 0, calls);
            refused(DueWheels::new, 0, y -> y.end(1) ? 1 : 0, y -> y.end(-1) ? 1 : 0);
            refused(() -> hundred(100), 0, y -> y.end(101) ? 1 : 0);
            DueWheels x = hundred(100);
            x.end(2);
            Check.is("what was cut off is not had back", x.end(3), false);
            is("two", x.count(9), 2);
        });
    }
}
