/** Edges of promise 16: the texts that run() reads. */
final class RunEdges extends EdgeKit {
    private RunEdges() {
    }

    static void tell(Edges e) {
        tellActs(e);
        tellSets(e);
        tellOthers(e);
        tellDone(e);
        tellWrong(e);
    }

    /** On a new object all of so many acts are done. */
    private static DueWheels done(String text, int acts) {
        DueWheels x = new DueWheels();
        is(text, run(x, text), acts);
        is(text + ", all were done", x.row(0), 0);
        return x;
    }

    /** The sign at this place can't stand there: nothing is done, the text is emptied, the row stays. */
    private static void wrong(String text, int place) {
        DueWheels x = busy();
        is(text, run(x, text), -1 - place);
        is(text + ", is emptied", x.count(9), 0);
        row(text + ", the row stays", x, 3, 4, 5);
        DueWheels left = busy();
        left.end(0);
        same(text + ", nothing is done", x, left);
    }

    private static String many(String act, int acts) {
        StringBuilder b = new StringBuilder(act);
        for (int i = 1; i < acts; i++) {
            b.append(';').append(act);
        }
        return b.toString();
    }

    private static void tellActs(Edges e) {
        e.edge(16, "THE TEXT tells ACTS with ; between (an empty one: none)", () -> {
            DueWheels x = done("", 0);
            row("of none", x, 0, 0);
            is("none of a text that was cut to none", after(busy(), y -> y.end(0) ? 1 : 0).run(), 0);
            done("t1", 1);
            done("t1;t1", 2);
            is("33 acts in 98 signs", done(many("t1", 33), 33).count(0), 33);
            is("100 signs", done(many("l1000", 16) + ";l10", 17).count(0), 16010);
            wrong("t1;", 3);
            wrong(";", 0);
            wrong(";t1", 0);
            wrong("t1;;t1", 3);
            wrong("t1,t1", 2);
            wrong("t1t1", 2);
            wrong("t1 ;t1", 2);
        });
        e.edge(16, "-1 - p: the sign at p can't stand there", () -> {
            wrong("x", 0);
            wrong("S5,0", 0);
            wrong(" t1", 0);
            wrong("1", 0);
            wrong("-", 0);
            wrong("t1;x", 3);
            wrong("tx", 1);
            wrong("t-1", 1);
            wrong("t;", 1);
            wrong("l+1", 1);
            wrong("l--1", 2);
            wrong("l-x", 2);
            wrong("l1x", 2);
            wrong("c-1", 1);
            wrong("c,1", 1);
            wrong("c1,1", 2);
            wrong("s,5,0", 1);
            wrong("s-5,0", 1);
            wrong("s5;0", 2);
            wrong("s5,,0", 3);
            wrong("s5,-1", 3);
            wrong("s5,1;5", 4);
            wrong("s5,1,-5", 5);
            wrong("s5,1,5,", 6);
            wrong(many("t1", 33) + ";x", 99);
            DueWheels x = new DueWheels();
            x.sign('t' << 24 | '1' << 16);
            is("a sign of value 0 is no end", x.run(), -1 - 2);
            for (int sign : new int[] {0, 127, 128, 255, '0' + 128, '/', ':'}) {
                x.sign('t' << 24 | sign << 16);
                x.end(2);
                is("a sign " + sign, x.run(), -1 - 1);
            }
        });
    }

    private static void tellSets(Edges e) {
        e.edge(16, "s, a delay (one to four digits, above 0)", () -> {
            is("1", done("s1,0", 1).timer(0, 0), 1);
            is("9999", done("s9999,0", 1).timer(0, 0), 9999);
            is("0001", done("s0001,0", 1).timer(0, 0), 1);
            is("0010", done("s0010,0", 1).timer(0, 0), 10);
            is("from CLOCK", done("t9;s5,0", 2).timer(0, 0), 14);
            wrong("s0,0", 1);
            wrong("s00,0", 2);
            wrong("s0000,0", 4);
            wrong("s10000,0", 5);
            wrong("s00001,0", 5);
            wrong("s", 1);
            wrong("s5", 2);
        });
        e.edge(16, "a SORT (0 .. 3)", () -> {
            is("0", done("s5,0", 1).timer(0, 5), 0);
            for (int sort = 1; sort <= 3; sort++) {
                is("SORT " + sort, done("s5," + sort + ",7", 1).timer(0, 5), sort);
            }
            wrong("s5,4", 3);
            wrong("s5,9", 3);
            wrong("s5,4,7", 3);
            wrong("s5,41", 4);
            wrong("s5,00", 4);
            wrong("s5,03,7", 4);
            wrong("s5,10,7", 4);
            wrong("s5,", 3);
            wrong("s5,x", 3);
        });
        e.edge(16, "of other SORTS than 0, a PERIOD (one to four digits, 1 .. 1000) with , ahead of each but the delay",
            () -> {
                is("1", done("s5,1,1", 1).timer(0, 6), 1);
                is("1000", done("s5,2,1000", 1).timer(0, 6), 1000);
                is("0999", done("s5,3,0999", 1).timer(0, 6), 999);
                is("0001", done("s5,3,0001", 1).timer(0, 6), 1);
                wrong("s5,0,1", 4);
                wrong("s5,0,", 4);
                wrong("s5,1", 4);
                wrong("s5,2;", 4);
                wrong("s5,3;t1", 4);
                wrong("s5,1,", 5);
                wrong("s5,1,0", 5);
                wrong("s5,1,0000", 8);
                wrong("s5,1,1001", 8);
                wrong("s5,1,9999", 8);
                wrong("s5,1,01000", 9);
                wrong("s5,1,10000", 9);
            });
        e.edge(16, "sets() in GROUP 0, without end", () -> {
            DueWheels x = done("s1,1,1", 1);
            is("GROUP", x.timer(0, 4), 0);
            is("TIMES", x.timer(0, 7), 0);
            is("set", x.told(6), 1);
            is("it RINGS on", x.ticks(100), 100);
            DueWheels y = sixteen();
            is("a seventeenth can't be", run(y, "s1,0;t1"), 0);
            row("a seventeenth can't be", y, 1, 0);
        });
    }

    private static void tellOthers(Edges e) {
        e.edge(16, "t and a digit above 0: so many TICKS", () -> {
            is("1", done("t1", 1).count(0), 1);
            is("9", done("t9", 1).count(0), 9);
            wrong("t0", 1);
            wrong("t", 1);
            wrong("t10", 2);
            wrong("t1000", 2);
            wrong("t99", 2);
            DueWheels x = nearTheEnd(3);
            is("past the last CLOCK", run(x, "t3;t1;t1"), 1);
            row("past the last CLOCK", x, 1, 3);
        });
        e.edge(16, "l, - or not, and a number (one to four digits, above 0): a LEAP", () -> {
            is("1", done("l1", 1).count(0), 1);
            is("9999", done("l9999", 1).count(0), 9999);
            is("back", done("l9999;l-9999", 2).count(0), 0);
            is("back by 1", done("l5;l-0001", 2).count(0), 4);
            is("told", done("l5;l-3", 2).told(4), 5);
            is("told back", done("l5;l-3", 2).told(5), 3);
            wrong("l0", 1);
            wrong("l-0", 2);
            wrong("l0000", 4);
            wrong("l-0000", 5);
            wrong("l10000", 5);
            wrong("l-10000", 6);
            wrong("l00001", 5);
            wrong("l", 1);
            wrong("l-", 2);
            wrong("l-;", 2);
            DueWheels x = new DueWheels();
            is("below 0", run(x, "l5;l-6;t1"), 1);
            row("below 0", x, 1, 0);
            is("CLOCK", x.count(0), 5);
        });
        e.edge(16, "c and a number (one or two digits): cancels()", () -> {
            DueWheels x = sixteen();
            is("0, 01, 15", run(x, "c0;c01;c15"), 3);
            is("three are gone", x.count(3), 13);
            is("told", x.told(3), 3);
            for (String none : new String[] {"c0", "c00", "c15", "c16", "c99"}) {
                is(none + ": none such, but it can stand", run(x, none), 0);
                row(none, x, 1, 0);
            }
            wrong("c", 1);
            wrong("c000", 3);
            wrong("c100", 3);
            wrong("c1;c123;t1", 6);
        });
    }

    private static void tellDone(Edges e) {
        e.edge(16, "they are done one by one, till one can't be: how many were done", () -> {
            DueWheels x = new DueWheels();
            is("none", run(x, "c0;t1"), 0);
            is("CLOCK", x.count(0), 0);
            is("two", run(x, "s1,0;c0;c0;t9"), 2);
            is("CLOCK", x.count(0), 0);
            is("one set and rung is gone", run(x, "s1,0;t1;c0"), 2);
            is("CLOCK", x.count(0), 1);
            is("the last can't be", run(x, "t1;t1;l-4"), 2);
            is("all", run(x, "t1;t1;l-4"), 3);
            is("CLOCK", x.count(0), 1);
            is("the text is empty", x.count(9), 0);
        });
        e.edge(16, "the ROW: 1 if one could not be, else 0, how many RANG in these", () -> {
            DueWheels x = new DueWheels();
            is("by TICKS and a LEAP", run(x, "s1,1,1;t9;l100;t1"), 4);
            row("9, 1 and 1", x, 0, 11);
            is("none", run(x, "l-9"), 1);
            row("none, of these alone", x, 0, 0);
            is("one can't be", run(x, "l9;t2;c9;t9"), 2);
            row("what RANG before it", x, 1, 2);
            is("the first can't be", run(x, "c9"), 0);
            row("the first can't be", x, 1, 0);
        });
    }

    private static void tellWrong(Edges e) {
        e.edge(16, "of a number that can't be its last digit", () -> {
            wrong("s0,0", 1);
            wrong("s000,0", 3);
            wrong("s5,7", 3);
            wrong("s5,1,0", 5);
            wrong("s5,1,000", 7);
            wrong("s5,1,1001", 8);
            wrong("t0", 1);
            wrong("l00", 2);
            wrong("l-00", 3);
            wrong("t1;l-00;x", 6);
        });
        e.edge(16, "a digit too many", () -> {
            wrong("s12345,0", 5);
            wrong("s00000,0", 5);
            wrong("s123456789,0", 5);
            wrong("s5,12,7", 4);
            wrong("s5,1,10000", 9);
            wrong("s5,1,00000", 9);
            wrong("t11", 2);
            wrong("l12345", 5);
            wrong("l-12345", 6);
            wrong("c012", 3);
            wrong("c0123", 3);
        });
        e.edge(16, "its end, if it ends too early", () -> {
            for (String text : new String[] {"s", "s5", "s5,", "s5,1", "s5,1,", "s5,2,", "t", "l", "l-", "c", "t1;",
                "t1;s", "t1;s5", "t1;s5,0;", "c0;l-"}) {
                wrong(text, text.length());
            }
            wrong(many("t1", 33) + ";t", 100);
            wrong(many("t1", 33) + ";", 99);
        });
        e.edge(16, "nothing is done then.", () -> {
            wrong("t1;l5;c0;s5,0;x", 14);
            wrong("t9;t9;t0", 7);
            wrong("c0;c1;c2;c", 10);
        });
    }
}
