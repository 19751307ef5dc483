/** One method for each promise of the document: ordinary inputs, the edges it names, wrong inputs. */
public final class PromisesTest {
    private static final int NONE = DueWheels.NONE;

    public static void main(String[] args) {
        promise1NewObject();
        promise2Wheels();
        promise3Order();
        promise4Ticks();
        promise4TicksBySort();
        promise5Leaps();
        promise5LeapsBySort();
        promise6Sets();
        promise7Cancels();
        promise8CancelsAll();
        promise9Steady();
        promise10Pauses();
        promise11Resumes();
        promise12Holds();
        promise13GoesOn();
        promise14Spreads();
        promise15Delays();
        promise16Run();
        promise16RunTexts();
        promise17Sign();
        promise18End();
        promise19Timer();
        promise20Slot();
        promise21Far();
        promise22Group();
        promise23Full();
        promise24Next();
        promise25Rings();
        promise26Quiet();
        promise27Moves();
        promise28Cost();
        promise29Best();
        promise30Ahead();
        promise31Way();
        promise32Would();
        promise33Busiest();
        promise34Till();
        promise35Loudest();
        promise36Clashes();
        promise37Rung();
        promise38Told();
        promise39Count();
        promise40Row();
        endOfTheClock();
        Check.close("PromisesTest");
    }

    private static void is(String what, long got, long want) {
        Check.is(what, got, want);
    }

    private static void row(String what, DueWheels x, long... want) {
        Check.row(what, x, want);
    }

    /** An object with sixteen timers of delay 1 to 16, groups 0 to 7 twice, each ringing once. */
    private static DueWheels sixteen() {
        DueWheels x = new DueWheels();
        for (int i = 0; i < 16; i++) {
            x.sets(i + 1, i % 8, 0, 1, 0);
        }
        return x;
    }

    /** An object of which a row is 7 alone: timer 7 of eight in group 7. */
    private static DueWheels withRowSeven() {
        DueWheels x = new DueWheels();
        for (int i = 0; i < 8; i++) {
            x.sets(200 + i, i, 0, 1, 0);
        }
        is("a row of 7", x.group(7), 1);
        row("a row of 7", x, 7);
        return x;
    }

    private static void promise1NewObject() {
        DueWheels x = new DueWheels();
        is("1: CLOCK", x.count(0), 0);
        is("1: LEVELS", x.count(1), 3);
        is("1: WHOLE", x.count(2), 64);
        for (int k = 0; k < 4; k++) {
            is("1: SIZE " + k, x.count(10 + k), k < 3 ? 4 : 0);
        }
        for (int what = 3; what < 10; what++) {
            is("1: count " + what, x.count(what), 0);
        }
        for (int what = 0; what < 7; what++) {
            is("1: told " + what, x.told(what), 0);
        }
        is("1: NONE", DueWheels.NONE, -1);
    }

    private static void promise2Wheels() {
        DueWheels x = withRowSeven();
        is("2: as they are", x.wheels(4, 4, 4, 0), -2);
        is("2: none", x.wheels(0, 0, 0, 0), NONE);
        is("2: first 0", x.wheels(0, 4, 4, 4), NONE);
        is("2: too small", x.wheels(1, 4, 0, 0), NONE);
        is("2: too great", x.wheels(17, 0, 0, 0), NONE);
        is("2: second too small", x.wheels(4, 1, 0, 0), NONE);
        is("2: third too great", x.wheels(4, 4, 17, 0), NONE);
        is("2: fourth too great", x.wheels(4, 4, 4, 17), NONE);
        is("2: below 0", x.wheels(4, -4, 0, 0), NONE);
        is("2: behind a 0", x.wheels(4, 0, 4, 0), NONE);
        is("2: last behind a 0", x.wheels(4, 4, 0, 4), NONE);
        is("2: wrong behind a 0", x.wheels(4, 0, 0, 99), NONE);
        row("2: refused calls leave the row", x, 7);
        is("2: refused calls leave the wheels", x.count(2), 64);
        is("2: one", x.wheels(2, 0, 0, 0), 1);
        is("2: LEVELS", x.count(1), 1);
        is("2: WHOLE of one", x.count(2), 2);
        is("2: SIZE 1 of one", x.count(11), 0);
        is("2: as they are now", x.wheels(2, 0, 0, 0), -2);
        is("2: four", x.wheels(16, 2, 3, 16), 4);
        is("2: WHOLE of four", x.count(2), 1536);
        is("2: laid anew, LEVEL", x.timer(0, 1), 3);
        is("2: laid anew, SLOT", x.timer(0, 2), 200 / 96 % 16);
        is("2: as they are, four", x.wheels(16, 2, 3, 16), -2);
        is("2: three of them", x.wheels(16, 2, 3, 0), 3);
        is("2: another second", x.wheels(16, 3, 3, 0), 3);
        is("2: two", x.wheels(16, 16, 0, 0), 2);
        is("2: laid anew, lower", x.timer(0, 1), 1);
        is("2: SLOT lower", x.timer(0, 2), 12);
        x.pauses(1);
        is("2: a paused one", x.wheels(3, 3, 0, 0), 2);
        is("2: a paused one lies nowhere", x.timer(1, 1), -2);
        is("2: far", x.timer(0, 1), NONE);
        is("2: not moved", x.told(1), 0);
    }

    private static void promise3Order() {
        DueWheels x = new DueWheels();
        is("3: as it is", x.order(0), -2);
        is("3: below", x.order(-1), NONE);
        is("3: above", x.order(3), NONE);
        x.sets(3, 5, 0, 1, 0);
        x.sets(3, 2, 0, 1, 0);
        x.sets(3, 5, 0, 1, 0);
        x.sets(3, 2, 0, 1, 0);
        x.next();
        row("3: rule 0", x, 0, 1, 2, 3);
        is("3: to 1", x.order(1), 0);
        x.next();
        row("3: rule 1", x, 1, 3, 0, 2);
        is("3: to 2", x.order(2), 1);
        is("3: RULE", x.count(6), 2);
        is("3: as it is now", x.order(2), -2);
        is("3: ring", x.ticks(3), 4);
        row("3: rule 2", x, 3, 3, 2, 3, 1, 3, 0, 3);
        is("3: back", x.order(0), 2);
    }

    private static void promise4Ticks() {
        DueWheels x = withRowSeven();
        is("4: 0", x.ticks(0), NONE);
        is("4: 101", x.ticks(101), NONE);
        is("4: -1", x.ticks(-1), NONE);
        row("4: refused", x, 7);
        is("4: clock stays", x.count(0), 0);
        is("4: 100", x.ticks(100), 0);
        row("4: nothing rang", x);
        is("4: clock", x.count(0), 100);
        is("4: all", x.ticks(99) + x.ticks(9), 8);
        row("4: the row of the last call", x, 0, 200, 1, 201, 2, 202, 3, 203, 4, 204, 5, 205, 6, 206, 7, 207);
        is("4: all went", x.count(3), 0);

        DueWheels y = new DueWheels();
        y.sets(1, 0, 1, 1, 0);
        is("4: 30 of one", y.ticks(30), 30);
        is("4: the latest 20", y.count(8), 40);
        is("4: oldest of these", y.row(1), 11);
        is("4: the last", y.row(39), 30);

        DueWheels z = new DueWheels();
        z.sets(64, 0, 0, 1, 0);
        z.sets(70, 0, 0, 1, 0);
        z.sets(127, 0, 0, 1, 0);
        z.sets(128, 0, 0, 1, 0);
        z.ticks(63);
        is("4: far till WHOLE", z.count(5), 4);
        is("4: D below WHOLE, far still", z.timer(1, 1), NONE);
        is("4: rings as it is laid", z.ticks(1), 1);
        is("4: far, laid on LEVEL 1", z.timer(1, 1), 1);
        is("4: far, laid on LEVEL 2", z.timer(2, 1), 2);
        is("4: far, not yet", z.timer(3, 1), NONE);
        is("4: MOVED", z.told(1), 3);
        is("4: down to LEVEL 0", z.ticks(4), 0);
        is("4: LEVEL 0", z.timer(1, 1), 0);
        is("4: SLOT", z.timer(1, 2), 2);
        is("4: MOVED once more", z.told(1), 4);
        is("4: rest of them", z.ticks(60), 3);
        row("4: when", z, 1, 70, 2, 127, 3, 128);
    }

    private static void promise4TicksBySort() {
        DueWheels x = new DueWheels();
        x.sets(2, 0, 0, 5, 9);
        x.sets(2, 0, 1, 5, 2);
        x.sets(2, 0, 2, 5, 0);
        x.sets(2, 0, 3, 300, 0);
        is("4: all ring", x.ticks(2), 4);
        is("4: sort 0 goes, whatever TIMES", x.count(3), 3);
        is("4: TIMES less", x.timer(1, 7), 1);
        is("4: sort 1", x.timer(1, 0), 7);
        is("4: TIMES 0 stays", x.timer(2, 7), 0);
        is("4: sort 2", x.timer(2, 0), 7);
        is("4: sort 3 doubles", x.timer(3, 6), 600);
        is("4: sort 3", x.timer(3, 0), 602);
        is("4: RANG", x.timer(3, 8), 1);
        is("4: again", x.ticks(5), 2);
        is("4: of TIMES 1 it goes", x.count(3), 2);
        x.pauses(2);
        for (int i = 0; i < 5; i++) {
            x.ticks(100);
        }
        x.ticks(95);
        is("4: 1000 at most", x.timer(3, 6), 1000);
        is("4: by 1000", x.timer(3, 0), 1602);
        is("4: nothing missed by ticks", x.told(2), 0);
    }

    private static void promise5Leaps() {
        DueWheels x = withRowSeven();
        is("5: 0", x.leaps(0), NONE);
        is("5: too far", x.leaps(1000001), NONE);
        is("5: too far back", x.leaps(-1000001), NONE);
        is("5: below 0", x.leaps(-1), -4);
        is("5: far below 0", x.leaps(-1000000), -4);
        row("5: refused", x, 7);
        x.steady(1, true);
        x.pauses(2);
        is("5: ahead", x.leaps(204), 3);
        row("5: the overdue, what DUE was", x, 0, 200, 3, 203, 4, 204);
        is("5: the steady one", x.timer(1, 0), 405);
        is("5: the paused one", x.timer(2, 10), 202);
        is("5: laid anew", x.timer(5, 1), 0);
        is("5: laid anew, SLOT", x.timer(5, 2), 1);
        is("5: not moved", x.told(1), 0);
        is("5: told", x.told(0), 3);
        is("5: back", x.leaps(-200), 0);
        row("5: nothing rang", x);
        is("5: steady goes back", x.timer(1, 0), 205);
        is("5: others stay", x.timer(5, 0), 205);
        is("5: farther off now", x.timer(5, 1), NONE);
        is("5: to 0", x.leaps(-4), 0);
        is("5: CLOCK 0", x.count(0), 0);
        is("5: the farthest", x.leaps(1000000), 3);
        is("5: CLOCK", x.count(0), 1000000);
        is("5: what is left", x.count(3), 2);
    }

    private static void promise5LeapsBySort() {
        DueWheels x = new DueWheels();
        x.sets(9, 3, 1, 4, 3);
        x.sets(5, 4, 2, 4, 0);
        x.sets(9, 1, 3, 4, 0);
        x.sets(10, 0, 1, 1, 0);
        x.sets(11, 0, 0, 1, 0);
        x.order(1);
        is("5: in order", x.leaps(10), 4);
        row("5: least DUE first, then ORDER", x, 1, 5, 2, 9, 0, 9, 3, 10);
        is("5: sort 1 once more", x.timer(0, 0), 13);
        is("5: sort 2", x.timer(1, 0), 14);
        is("5: sort 3", x.timer(2, 0), 18);
        is("5: DUE at CLOCK rings", x.timer(3, 0), 11);
        is("5: nothing missed", x.told(2), 0);
        is("5: once each", x.leaps(1000), 5);
        is("5: sort 1, till above CLOCK", x.timer(0, 0), 1013);
        is("5: TIMES by one alone", x.timer(0, 7), 1);
        is("5: sort 1 by ones", x.timer(3, 0), 1011);
        is("5: MISSED", x.told(2), 249 + 999);
        is("5: a million periods", x.leaps(1000000), 4);
        is("5: MISSED, all", x.told(2), 249 + 999 + 999999);
        is("5: next one", x.timer(3, 0), 1001011);
        is("5: gone by TIMES", x.count(3), 3);
    }

    /** It takes a thousand leaps: more calls than the document promises, but the end stands there all the same. */
    private static void endOfTheClock() {
        DueWheels x = new DueWheels();
        for (int i = 0; i < 999; i++) {
            x.leaps(1000000);
        }
        x.leaps(999950);
        x.sets(40, 0, 1, 1, 0);
        is("4: past the end", x.ticks(51), -4);
        is("25: past the end", x.rings(51), -4);
        is("26: past the end", x.quiet(51), -4);
        is("33: past the end", x.busiest(51), -4);
        is("35: past the end", x.loudest(51), -4);
        is("36: past the end", x.clashes(51), -4);
        is("34: past the end", x.till(1), -4);
        is("34: NONE ahead of -4", x.till(101), NONE);
        is("5: past the end", x.leaps(51), -4);
        is("32: past the end", x.would(51), -4);
        is("32: to the end", x.would(50), 1);
        is("25: to the end", x.rings(50), 11);
        is("4: to the end", x.ticks(50), 11);
        is("39: the last CLOCK", x.count(0), 1000000000);
        is("4: not one more", x.ticks(1), -4);
        is("4: NONE ahead of -4", x.ticks(101), NONE);
        is("5: not one more", x.leaps(1), -4);
        is("16: not one more", run(x, "s1,0;t1"), 1);
        row("16: not one more", x, 1, 0);
        is("5: back", x.leaps(-1000000), 0);
    }

    private static void promise6Sets() {
        DueWheels x = withRowSeven();
        is("6: delay 0", x.sets(0, 0, 0, 1, 0), NONE);
        is("6: delay too great", x.sets(1000001, 0, 0, 1, 0), NONE);
        is("6: group below", x.sets(1, -1, 0, 1, 0), NONE);
        is("6: group above", x.sets(1, 8, 0, 1, 0), NONE);
        is("6: sort below", x.sets(1, 0, -1, 1, 0), NONE);
        is("6: sort above", x.sets(1, 0, 4, 1, 0), NONE);
        is("6: period 0", x.sets(1, 0, 0, 0, 0), NONE);
        is("6: period above", x.sets(1, 0, 1, 1001, 0), NONE);
        is("6: times below", x.sets(1, 0, 1, 1, -1), NONE);
        is("6: times above", x.sets(1, 0, 1, 1, 100), NONE);
        is("6: none was set", x.told(6), 8);
        is("6: the edges", x.sets(1000000, 7, 3, 1000, 99), 8);
        row("6: the row stays", x, 7);
        is("6: DUE", x.timer(8, 0), 1000000);
        is("6: ARRIVAL", x.timer(8, 3), 8);
        x.cancels(3);
        x.cancels(5);
        x.ticks(2);
        is("6: the least that is free", x.sets(1, 0, 0, 1, 0), 3);
        is("6: DUE from CLOCK", x.timer(3, 0), 3);
        is("6: ARRIVAL counts on", x.timer(3, 3), 9);
        is("6: the next free", x.sets(1, 0, 0, 1, 0), 5);
        for (int i = 9; i < 16; i++) {
            is("6: up to 16", x.sets(1, 0, 0, 1, 0), i);
        }
        is("6: there are 16", x.sets(1, 0, 0, 1, 0), -3);
        is("6: NONE ahead of -3", x.sets(0, 0, 0, 1, 0), NONE);
        is("6: set so far", x.told(6), 18);
    }

    private static void promise7Cancels() {
        DueWheels x = sixteen();
        is("7: below", x.cancels(-1), NONE);
        is("7: above", x.cancels(16), NONE);
        is("7: one", x.cancels(4), 15);
        is("7: it is gone", x.cancels(4), NONE);
        is("7: another", x.cancels(0), 14);
        is("7: told", x.told(3), 2);
        is("7: rings no more", x.ticks(1), 0);
        x.pauses(6);
        is("7: a paused one", x.cancels(6), 13);
        is("7: paused no more", x.count(4), 0);
    }

    private static void promise8CancelsAll() {
        DueWheels x = sixteen();
        is("8: below", x.cancelsAll(-1), NONE);
        is("8: above", x.cancelsAll(8), NONE);
        x.pauses(3);
        is("8: both of 3", x.cancelsAll(3), 2);
        is("8: none of 3", x.cancelsAll(3), 0);
        is("8: left", x.count(3), 14);
        is("8: told", x.told(3), 2);
        is("8: others ring", x.ticks(16), 14);
        is("8: the last group", x.cancelsAll(7), 0);
        DueWheels y = sixteen();
        is("8: timer 0", y.cancelsAll(0), 2);
        is("8: timer 0 is gone", y.ticks(1), 0);
        is("8: timer 15", y.cancelsAll(7), 2);
        is("8: the others", y.count(3), 12);
    }

    private static void promise9Steady() {
        DueWheels x = sixteen();
        is("9: none such", x.steady(16, true), NONE);
        is("9: below", x.steady(-1, false), NONE);
        is("9: is not", x.steady(0, false), -2);
        is("9: becomes", x.steady(0, true), 0);
        is("9: is", x.steady(0, true), -2);
        is("9: told so", x.timer(0, 9), 1);
        is("9: no more", x.steady(0, false), 1);
        is("9: told so", x.timer(0, 9), 0);
        x.steady(0, true);
        x.cancels(0);
        x.sets(5, 0, 0, 1, 0);
        is("9: a new one is not", x.timer(0, 9), 0);
        x.pauses(0);
        x.cancels(0);
        x.sets(5, 0, 2, 3, 0);
        is("9: nor paused", x.timer(0, 1), 1);
        x.ticks(5);
        is("9: RANG", x.timer(0, 8), 1);
        x.cancels(0);
        x.sets(5, 0, 2, 3, 0);
        is("9: nor did it ring", x.timer(0, 8), 0);
    }

    private static void promise10Pauses() {
        DueWheels x = sixteen();
        is("10: none such", x.pauses(16), NONE);
        x.ticks(3);
        is("10: gone", x.pauses(0), NONE);
        is("10: REST", x.pauses(9), 7);
        is("10: it is", x.pauses(9), -2);
        is("10: LEVEL", x.timer(9, 1), -2);
        is("10: SLOT", x.timer(9, 2), -2);
        is("10: REST told", x.timer(9, 10), 7);
        is("10: DUE goes along", x.timer(9, 0), 10);
        is("10: others ring", x.ticks(100), 12);
        is("10: DUE went along", x.timer(9, 0), 110);
        is("10: REST stays", x.timer(9, 10), 7);
        is("10: how many", x.count(4), 1);
    }

    private static void promise11Resumes() {
        DueWheels x = sixteen();
        is("11: none such", x.resumes(-1), NONE);
        is("11: not paused", x.resumes(15), -2);
        x.pauses(15);
        x.ticks(100);
        x.leaps(50);
        is("11: DUE", x.resumes(15), 166);
        is("11: no REST", x.timer(15, 10), NONE);
        is("11: LEVEL", x.timer(15, 1), 2);
        is("11: SLOT", x.timer(15, 2), 166 / 16 % 4);
        is("11: not yet", x.ticks(15), 0);
        is("11: rings", x.ticks(1), 1);
    }

    private static void promise12Holds() {
        DueWheels x = sixteen();
        is("12: below", x.holds(-1), NONE);
        is("12: above", x.holds(8), NONE);
        x.pauses(2);
        is("12: the other of 2", x.holds(2), 1);
        is("12: none more", x.holds(2), 0);
        is("12: both of 7", x.holds(7), 2);
        is("12: REST", x.timer(15, 10), 16);
        is("12: paused", x.count(4), 4);
        is("12: others ring", x.ticks(20), 12);
        is("12: an empty group", x.holds(0), 0);
    }

    private static void promise13GoesOn() {
        DueWheels x = sixteen();
        is("13: below", x.goesOn(-1), NONE);
        is("13: above", x.goesOn(8), NONE);
        is("13: none", x.goesOn(1), 0);
        x.holds(1);
        x.holds(2);
        x.ticks(20);
        is("13: both of 1", x.goesOn(1), 2);
        is("13: DUE", x.timer(1, 0), 22);
        is("13: DUE of the other", x.timer(9, 0), 30);
        is("13: laid", x.timer(1, 1), 0);
        is("13: those of 2 not", x.count(4), 2);
        x.pauses(9);
        is("13: one of 1", x.goesOn(1), 1);
        is("13: they ring", x.ticks(10), 2);
        x.sets(4, 6, 0, 1, 0);
        x.pauses(0);
        is("13: timer 0", x.goesOn(6), 1);
        is("13: timer 0 goes on", x.timer(0, 1), 1);
    }

    private static void promise14Spreads() {
        DueWheels x = withRowSeven();
        is("14: group below", x.spreads(-1, 1), NONE);
        is("14: group above", x.spreads(8, 1), NONE);
        is("14: gap below", x.spreads(0, -1), NONE);
        is("14: gap above", x.spreads(0, 1001), NONE);
        is("14: one alone", x.spreads(0, 5), -2);
        x.sets(30, 0, 0, 1, 0);
        x.sets(10, 0, 0, 1, 0);
        x.pauses(9);
        x.pauses(8);
        is("14: but for paused ones one alone", x.spreads(0, 5), -2);
        row("14: refused", x, 7);
        x.resumes(8);
        x.resumes(9);
        x.sets(10, 0, 0, 1, 0);
        x.order(2);
        x.ticks(2);
        is("14: three of four", x.spreads(0, 20), 3);
        row("14: the last DUE", x, 70);
        is("14: the first in ORDER stays", x.timer(10, 0), 10);
        is("14: the other of that DUE", x.timer(9, 0), 30);
        is("14: third", x.timer(8, 0), 50);
        is("14: fourth", x.timer(0, 0), 70);
        is("14: laid anew", x.timer(0, 1), NONE);
        is("14: laid anew, LEVEL", x.timer(8, 1), 2);
        is("14: the first too", x.timer(10, 1), 1);
        is("14: as they are", x.spreads(0, 20), 0);
        is("14: gap 0", x.spreads(0, 0), 3);
        row("14: all at once", x, 10);
        is("14: rings at once", x.ticks(8), 4);
        DueWheels y = new DueWheels();
        y.sets(16, 0, 0, 1, 0);
        y.sets(20, 0, 0, 1, 0);
        y.ticks(13);
        is("14: LEVEL as it was laid", y.timer(0, 1), 2);
        is("14: it stays", y.spreads(0, 4), 0);
        is("14: laid anew all the same", y.timer(0, 1), 0);
        is("14: not moved", y.told(1), 0);
        DueWheels z = new DueWheels();
        z.sets(30, 0, 0, 1, 0);
        z.sets(9, 0, 0, 1, 0);
        z.sets(20, 0, 0, 1, 0);
        z.sets(9, 1, 0, 1, 0);
        is("14: by DUE, not by ARRIVAL", z.spreads(0, 2), 2);
        row("14: the last DUE", z, 13);
        is("14: the first", z.timer(1, 0), 9);
        is("14: the second", z.timer(2, 0), 11);
        is("14: the third", z.timer(0, 0), 13);
        is("14: another group", z.timer(3, 0), 9);
        is("14: the widest", z.spreads(0, 1000), 2);
        row("14: the widest", z, 2009);
    }

    private static void promise15Delays() {
        DueWheels x = withRowSeven();
        is("15: none such", x.delays(8, 1), NONE);
        is("15: delay 0", x.delays(0, 0), NONE);
        is("15: delay above", x.delays(0, 1000001), NONE);
        is("15: it is so", x.delays(0, 200), -2);
        row("15: refused", x, 7);
        is("15: later", x.delays(0, 250), 0);
        row("15: by", x, 50);
        is("15: DUE", x.timer(0, 0), 250);
        x.ticks(10);
        is("15: sooner", x.delays(0, 3), 0);
        row("15: by", x, -237);
        is("15: DUE from CLOCK", x.timer(0, 0), 13);
        is("15: laid anew", x.timer(0, 1), 0);
        is("15: it is so now", x.delays(0, 3), -2);
        x.pauses(1);
        is("15: REST is so", x.delays(1, 191), -2);
        x.ticks(1);
        is("15: REST is so still", x.delays(1, 191), -2);
        is("15: a paused one", x.delays(1, 1000000), 0);
        row("15: REST by", x, 999809);
        is("15: REST", x.timer(1, 10), 1000000);
        is("15: paused still", x.timer(1, 1), -2);
        is("15: not moved", x.told(1), 0);
        is("15: the least", x.delays(2, 1), 0);
        is("15: DUE", x.timer(2, 0), 12);
        is("15: the greatest", x.delays(2, 1000000), 0);
        is("15: DUE", x.timer(2, 0), 1000011);
    }

    private static int run(DueWheels x, String text) {
        Check.text(x, text);
        return x.run();
    }

    private static void promise16Run() {
        DueWheels x = new DueWheels();
        is("16: empty", run(x, ""), 0);
        row("16: empty", x, 0, 0);
        is("16: all", run(x, "s5,0;s0009,1,0010;t9;l10;c0"), 4);
        row("16: c0 could not be", x, 1, 3);
        is("16: CLOCK", x.count(0), 19);
        is("16: the text is empty", x.count(9), 0);
        is("16: GROUP", x.timer(1, 4), 0);
        is("16: PERIOD", x.timer(1, 6), 10);
        is("16: TIMES", x.timer(1, 7), 0);
        is("16: DUE", x.timer(1, 0), 29);
        is("16: the rest is not done", run(x, "t1;l-21;t1"), 1);
        row("16: below 0", x, 1, 0);
        is("16: done before", x.count(0), 20);
        is("16: cancels", run(x, "c01;s9999,3,1000;l-20"), 3);
        row("16: cancels", x, 0, 0);
        is("16: told", x.told(3), 1);
        is("16: back", x.told(5), 20);
        is("16: SORT", x.timer(0, 5), 3);
        is("16: DUE of it", x.timer(0, 0), 10019);
        DueWheels y = sixteen();
        is("16: a seventeenth", run(y, "s1,0"), 0);
        row("16: a seventeenth", y, 1, 0);
        is("16: as one rings there is room", run(y, "t1;s1,0;s1,0;t1"), 2);
        row("16: then none", y, 1, 1);
        is("16: PERIOD of sort 0", y.timer(0, 6), 1);
        DueWheels z = new DueWheels();
        is("16: the least of all", run(z, "s1,1,1;l1;l-1;t1;c0"), 5);
        row("16: the least of all", z, 0, 1);
        is("16: CLOCK", z.count(0), 1);
    }

    private static void promise16RunTexts() {
        String[] wrong = {"x", "s", "sx", "s0,0", "s00,0", "s5", "s5;", "s5,", "s5,4", "s5,x", "s5,0,1", "s5,1",
            "s5,1;", "s5,1,", "s5,1,0", "s5,1,1001", "s5,1,01000", "s12345,0", "s5,00", "s5,1,5,", "t", "t0", "t10",
            "t05", "tx", "t-1", "l", "l0", "l-", "l-0", "l--1", "l+1", "l10000", "l-00010", "c", "cx", "c123", "c-1",
            "t1;", ";t1", "t1;;t1", "t1,t1", "t1 ", " t1", ";", "T1", "t1;s5,1,2x", "s5,2,2000;x",
            "c012", "s00012,0", "s5,1,00001", "l00001", "s5,2,10000", "c0001",
            "s5,41", "s5,41,7", "s5,412", "s5,04", "s5,12,7", "s5,4,7", "s5,9;t1", "t1;s5,30", "t00", "t0;t1"};
        int[] at = {0, 1, 1, 1, 2, 2, 2, 3, 3, 3, 4, 4,
            4, 5, 5, 8, 9, 5, 4, 6, 1, 1, 2,
            2, 1, 1, 1, 1, 2, 2, 2, 1, 5, 6, 1, 1, 3, 1,
            3, 0, 3, 2, 2, 0, 0, 0, 9, 8,
            3, 5, 9, 5, 9, 3,
            4, 4, 4, 4, 4, 3, 3, 7, 2, 1};
        DueWheels x = withRowSeven();
        is("16: as many places as texts", at.length, wrong.length);
        for (int i = 0; i < wrong.length; i++) {
            is("16: " + wrong[i], run(x, wrong[i]), -1 - at[i]);
            is("16: emptied by " + wrong[i], x.count(9), 0);
        }
        is("16: nothing is done", run(x, "t1;t2;c0;s1,0;y"), -1 - 14);
        is("16: CLOCK", x.count(0), 0);
        is("16: TIMERS", x.count(3), 8);
        row("16: the row stays", x, 7);
        x.sign('t' << 24 | 200 << 16);
        x.end(2);
        is("16: a sign above 127", x.run(), -2);
        x.sign('t' << 24 | '1' << 16);
        is("16: a sign 0", x.run(), -3);
        StringBuilder most = new StringBuilder("c0");
        while (most.length() + 3 <= 100) {
            most.append(";c0");
        }
        is("16: as many as there can be", run(x, most.toString()), 1);
        is("16: more than can be, ending too early", run(x, most + ";"), -1 - 99);
    }

    private static void promise17Sign() {
        DueWheels x = new DueWheels();
        is("17: four", x.sign(0x74313B74), 4);
        is("17: four more", x.sign(0x3200FF80), 8);
        x.end(5);
        is("17: highest byte first", x.run(), 2);
        is("17: CLOCK", x.count(0), 3);
        for (int i = 1; i <= 25; i++) {
            is("17: up to 100", x.sign(-1), 4 * i);
        }
        is("17: more than 100", x.sign(0), NONE);
        is("17: 100", x.count(9), 100);
        x.end(97);
        is("17: 101", x.sign(0), NONE);
        x.end(96);
        is("17: 100 again", x.sign(0), 100);
    }

    private static void promise18End() {
        DueWheels x = new DueWheels();
        Check.is("18: 0 of none", x.end(0), true);
        Check.is("18: 1 of none", x.end(1), false);
        x.sign(0x74317432);
        Check.is("18: 5 of 4", x.end(5), false);
        Check.is("18: below 0", x.end(-1), false);
        Check.is("18: all", x.end(4), true);
        is("18: all", x.count(9), 4);
        Check.is("18: 2 of 4", x.end(2), true);
        is("18: 2", x.count(9), 2);
        Check.is("18: 3 of 2", x.end(3), false);
        is("18: the first", x.run(), 1);
        is("18: CLOCK", x.count(0), 1);
    }

    private static void promise19Timer() {
        DueWheels x = new DueWheels();
        x.sets(9, 0, 0, 1, 0);
        x.sets(13, 6, 2, 77, 5);
        x.ticks(13);
        long[] due = {90, NONE, NONE, 1, 6, 2, 77, 4, 1, 0, NONE};
        for (int what = 0; what <= 10; what++) {
            is("19: " + what, x.timer(1, what), due[what]);
        }
        x.pauses(1);
        x.steady(1, true);
        x.ticks(7);
        long[] paused = {97, -2, -2, 1, 6, 2, 77, 4, 1, 1, 77};
        for (int what = 0; what <= 10; what++) {
            is("19: paused " + what, x.timer(1, what), paused[what]);
        }
        Check.noSuch("19: gone", () -> x.timer(0, 0));
        Check.noSuch("19: below", () -> x.timer(-1, 0));
        Check.noSuch("19: above", () -> x.timer(16, 0));
        Check.noSuch("19: what below", () -> x.timer(1, -1));
        Check.noSuch("19: what above", () -> x.timer(1, 11));
        DueWheels y = sixteen();
        is("19: LEVEL 0", y.timer(2, 1), 0);
        is("19: LEVEL 1", y.timer(3, 1), 1);
        is("19: LEVEL 1 still", y.timer(14, 1), 1);
        is("19: LEVEL 2", y.timer(15, 1), 2);
        is("19: SLOT of it", y.timer(15, 2), 1);
    }

    private static void promise20Slot() {
        DueWheels x = withRowSeven();
        is("20: level below", x.slot(-1, 0), NONE);
        is("20: level above", x.slot(3, 0), NONE);
        is("20: slot below", x.slot(0, -1), NONE);
        is("20: slot above", x.slot(0, 4), NONE);
        row("20: refused", x, 7);
        x.sets(35, 5, 0, 1, 0);
        x.sets(47, 4, 0, 1, 0);
        x.sets(40, 4, 0, 1, 0);
        is("20: three", x.slot(2, 2), 3);
        row("20: in ORDER, not by DUE", x, 8, 9, 10);
        x.order(1);
        x.slot(2, 2);
        row("20: rule 1", x, 9, 10, 8);
        x.order(2);
        x.slot(2, 2);
        row("20: rule 2", x, 10, 9, 8);
        is("20: empty", x.slot(2, 3), 0);
        row("20: empty", x);
        x.pauses(9);
        is("20: paused ones lie nowhere", x.slot(2, 2), 2);
        DueWheels y = sixteen();
        is("20: timer 0", y.slot(0, 1), 1);
        row("20: timer 0", y, 0);
        is("20: timer 15", y.slot(2, 1), 1);
        row("20: timer 15", y, 15);
    }

    private static void promise21Far() {
        DueWheels x = new DueWheels();
        is("21: none", x.far(), 0);
        row("21: none", x);
        x.sets(70, 1, 0, 1, 0);
        x.sets(64, 2, 0, 1, 0);
        x.sets(63, 3, 0, 1, 0);
        x.sets(70, 0, 0, 1, 0);
        x.sets(69, 0, 0, 1, 0);
        is("21: four", x.far(), 4);
        row("21: by DUE, then ARRIVAL", x, 1, 4, 0, 3);
        x.order(2);
        x.far();
        row("21: not in ORDER", x, 1, 4, 0, 3);
        x.order(1);
        x.far();
        row("21: not by GROUP", x, 1, 4, 0, 3);
        x.pauses(4);
        is("21: paused ones are not", x.far(), 3);
    }

    private static void promise22Group() {
        DueWheels x = sixteen();
        is("22: below", x.group(-1), NONE);
        is("22: above", x.group(8), NONE);
        x.pauses(5);
        is("22: two, paused or not", x.group(5), 2);
        row("22: by numbers", x, 5, 13);
        x.order(2);
        x.cancels(0);
        x.sets(100, 5, 0, 1, 0);
        is("22: three", x.group(5), 3);
        row("22: by numbers", x, 0, 5, 13);
        is("22: group 0", x.group(0), 1);
        row("22: group 0", x, 8);
    }

    private static void promise23Full() {
        DueWheels x = withRowSeven();
        is("23: below", x.full(-1), NONE);
        is("23: above", x.full(3), NONE);
        row("23: refused", x, 7);
        is("23: empty", x.full(1), 0);
        row("23: empty", x, 0);
        x.sets(3, 0, 0, 1, 0);
        x.sets(1, 0, 0, 1, 0);
        x.sets(3, 0, 0, 1, 0);
        is("23: two", x.full(0), 2);
        row("23: by numbers, all together", x, 1, 3, 3);
        DueWheels y = sixteen();
        y.wheels(16, 2, 0, 0);
        is("23: fifteen", y.full(0), 15);
        is("23: row of them", y.count(8), 16);
        is("23: first", y.row(0), 1);
        is("23: all", y.row(15), 15);
        is("23: the sixteenth", y.full(1), 1);
        row("23: the sixteenth", y, 1, 1);
        y.wheels(4, 4, 4, 0);
        is("23: slots 1 to 3", y.full(1), 3);
        row("23: slots 1 to 3", y, 1, 2, 3, 12);
        y.ticks(1);
        y.wheels(3, 5, 0, 0);
        is("23: slot 0 too", y.full(1), 5);
        row("23: slot 0 too", y, 0, 1, 2, 3, 4, 12);
    }

    private static void promise24Next() {
        DueWheels x = withRowSeven();
        for (int g = 0; g < 8; g++) {
            x.holds(g);
        }
        is("24: all paused", x.next(), -2);
        row("24: refused", x, 7);
        x.goesOn(6);
        x.goesOn(5);
        is("24: the least DUE", x.next(), 205);
        row("24: it", x, 5);
        x.sets(205, 2, 0, 1, 0);
        x.sets(205, 1, 0, 1, 0);
        x.next();
        row("24: rule 0", x, 5, 8, 9);
        x.order(1);
        x.next();
        row("24: rule 1", x, 9, 8, 5);
        x.order(2);
        is("24: rule 2", x.next(), 205);
        row("24: rule 2", x, 9, 8, 5);
        is("24: none at all", new DueWheels().next(), -2);
        is("24: timer 0", sixteen().next(), 1);
    }

    private static void promise25Rings() {
        DueWheels x = withRowSeven();
        is("25: 0", x.rings(0), NONE);
        is("25: 101", x.rings(101), NONE);
        row("25: refused", x, 7);
        x.sets(3, 0, 1, 2, 2);
        x.sets(5, 0, 0, 1, 0);
        is("25: five", x.rings(5), 3);
        row("25: in ORDER", x, 8, 3, 8, 5, 9, 5);
        is("25: four", x.rings(4), 1);
        is("25: nothing is changed", x.timer(8, 8), 0);
        is("25: CLOCK neither", x.count(0), 0);
        is("25: nor told", x.told(0) + x.told(1), 0);
        DueWheels y = new DueWheels();
        y.sets(1, 0, 1, 1, 0);
        y.sets(1, 0, 2, 1, 0);
        y.sets(20, 0, 3, 1, 0);
        y.order(2);
        is("25: 100", y.rings(100), 200 + 6);
        is("25: the first 20", y.count(8), 40);
        is("25: first", y.row(0), 1);
        is("25: last TIMER", y.row(38), 0);
        is("25: last CLOCK", y.row(39), 10);
    }

    private static void promise26Quiet() {
        DueWheels x = withRowSeven();
        is("26: 0", x.quiet(0), NONE);
        is("26: 101", x.quiet(101), NONE);
        row("26: refused", x, 7);
        is("26: all", x.quiet(100), 100);
        row("26: from", x, 1);
        x.sets(4, 0, 1, 4, 3);
        is("26: behind the last", x.quiet(20), 8);
        row("26: from", x, 13);
        is("26: of equal ones the first", x.quiet(15), 3);
        row("26: from", x, 1);
        is("26: of one", x.quiet(1), 1);
        x.ticks(3);
        is("26: none", x.quiet(1), 0);
        row("26: none", x, 0);
    }

    private static void promise27Moves() {
        DueWheels x = new DueWheels();
        is("27: none such", x.moves(0), NONE);
        is("27: above", x.moves(16), NONE);
        int[] delays = {3, 4, 5, 16, 17, 20, 21, 63, 64, 65, 68, 80, 85, 1000000, 999999};
        int[] moves = {0, 1, 1, 1, 1, 2, 2, 2, 1, 1, 2, 2, 3, 1, 3};
        for (int i = 0; i < delays.length; i++) {
            x.sets(delays[i], 0, 0, 1, 0);
            is("27: delay " + delays[i], x.moves(i), moves[i]);
        }
        x.pauses(3);
        is("27: paused", x.moves(3), -2);
        x.ticks(17);
        is("27: after 16 one less", x.moves(5), 1);
        x.wheels(2, 2, 2, 2);
        is("27: four levels and far", x.moves(14), 4);
        x.wheels(3, 0, 0, 0);
        is("27: one level", x.moves(14), 1);
        DueWheels y = new DueWheels();
        y.sets(85, 0, 0, 1, 0);
        y.ticks(85);
        is("27: as many as then are", y.told(1), 3);
    }

    private static void promise28Cost() {
        DueWheels x = withRowSeven();
        is("28: first 0", x.cost(0, 0, 0, 0), NONE);
        is("28: too great", x.cost(4, 17, 0, 0), NONE);
        is("28: behind a 0", x.cost(4, 0, 2, 0), NONE);
        row("28: refused", x, 7);
        is("28: as they are", x.cost(4, 4, 4, 0), 8 * 2);
        row("28: all far", x, 8, 2);
        is("28: one wheel", x.cost(16, 0, 0, 0), 8);
        row("28: all far", x, 8, 1);
        is("28: two wheels", x.cost(16, 13, 0, 0), 8);
        row("28: none far", x, 0, 1);
        x.pauses(0);
        is("28: without a paused one", x.cost(16, 13, 0, 0), 7);
        is("28: the wheels stay", x.count(2), 64);
        is("28: none at all", new DueWheels().cost(2, 2, 2, 2), 0);
        DueWheels y = new DueWheels();
        y.sets(20, 0, 0, 1, 0);
        y.ticks(18);
        is("28: as it lies", y.moves(0), 1);
        is("28: were it laid now", y.cost(4, 4, 4, 0), 0);
        row("28: not far, no move", y, 0, 0);
        is("28: D from CLOCK", y.cost(2, 0, 0, 0), 1);
        row("28: D is 2", y, 1, 1);
        is("28: D from CLOCK", y.cost(3, 0, 0, 0), 0);
        row("28: D is 2", y, 0, 0);
    }

    private static void promise29Best() {
        DueWheels x = withRowSeven();
        is("29: 0", x.best(0), NONE);
        is("29: 5", x.best(5), NONE);
        row("29: refused", x, 7);
        for (int l = 1; l <= 4; l++) {
            int least = Integer.MAX_VALUE;
            int size = 0;
            for (int s = 2; s <= 16; s++) {
                int cost = x.cost(s, l > 1 ? s : 0, l > 2 ? s : 0, l > 3 ? s : 0) + l * s;
                if (cost < least) {
                    least = cost;
                    size = s;
                }
            }
            is("29: best of " + l, x.best(l), size);
            row("29: together", x, least);
        }
        is("29: none at all", new DueWheels().best(4), 2);
        DueWheels y = new DueWheels();
        y.sets(2, 0, 0, 1, 0);
        is("29: of equal ones the least", y.best(1), 2);
        row("29: together", y, 3);
        for (int i = 0; i < 4; i++) {
            y.sets(2, 0, 0, 1, 0);
        }
        is("29: more slots", y.best(1), 3);
        row("29: together", y, 3);
        DueWheels z = new DueWheels();
        for (int i = 0; i < 16; i++) {
            z.sets(15, 0, 0, 1, 0);
        }
        is("29: the greatest", z.best(1), 16);
        row("29: together", z, 16);
    }

    private static void promise30Ahead() {
        DueWheels x = withRowSeven();
        is("30: both are one", x.ahead(3, 3), NONE);
        is("30: none such", x.ahead(0, 8), NONE);
        is("30: none such", x.ahead(-1, 0), NONE);
        x.pauses(2);
        is("30: paused", x.ahead(2, 3), -2);
        is("30: paused other", x.ahead(3, 2), -2);
        is("30: NONE ahead of -2", x.ahead(2, 2), NONE);
        row("30: refused", x, 7);
        is("30: first", x.ahead(3, 4), 0);
        row("30: CLOCK", x, 203);
        is("30: other", x.ahead(7, 4), 1);
        row("30: CLOCK", x, 204);
        x.sets(205, 2, 0, 1, 0);
        is("30: of one DUE by ARRIVAL", x.ahead(8, 5), 1);
        is("30: by DUE, not by ARRIVAL", x.ahead(8, 7), 0);
        is("30: by DUE, the other", x.ahead(6, 8), 1);
        x.order(1);
        is("30: by GROUP", x.ahead(8, 5), 0);
        x.order(2);
        is("30: the latest first", x.ahead(5, 8), 1);
        row("30: CLOCK", x, 205);
    }

    private static void promise31Way() {
        DueWheels x = withRowSeven();
        is("31: none such", x.way(8), NONE);
        x.pauses(1);
        is("31: paused", x.way(1), -2);
        row("31: refused", x, 7);
        is("31: far", x.way(7), 2);
        row("31: far", x, NONE, 192, 1, 204, 0, 207);
        x.sets(3, 0, 0, 1, 0);
        is("31: LEVEL 0", x.way(8), 0);
        row("31: LEVEL 0", x, 0, 3);
        x.sets(23, 0, 0, 1, 0);
        is("31: LEVEL 2", x.way(9), 2);
        row("31: LEVEL 2", x, 2, 16, 1, 20, 0, 23);
        x.wheels(2, 2, 2, 2);
        x.sets(127, 0, 0, 1, 0);
        is("31: through all", x.way(10), 4);
        row("31: through all", x, NONE, 112, 3, 120, 2, 124, 1, 126, 0, 127);
    }

    private static void promise32Would() {
        DueWheels x = withRowSeven();
        is("32: 0", x.would(0), NONE);
        is("32: too far", x.would(1000001), NONE);
        is("32: below 0", x.would(-1), -4);
        row("32: refused", x, 7);
        x.sets(201, 0, 1, 2, 0);
        x.sets(150, 0, 2, 5, 2);
        x.sets(190, 0, 3, 6, 1);
        x.steady(0, true);
        x.pauses(3);
        is("32: seven", x.would(204), 6);
        row("32: DUE after it", x, 9, 209, 10, NONE, 1, NONE, 8, 205, 2, NONE, 4, NONE);
        is("32: CLOCK stays", x.count(0), 0);
        is("32: none is gone", x.count(3), 11);
        is("32: nothing told", x.told(0) + x.told(2) + x.told(4), 0);
        is("32: log", x.count(7), 0);
        is("32: as leaps", x.leaps(204), 6);
        is("32: back", x.would(-204), 0);
        row("32: back", x);
        is("32: too far back", x.would(-205), -4);
    }

    private static void promise33Busiest() {
        DueWheels x = withRowSeven();
        is("33: 0", x.busiest(0), NONE);
        is("33: 101", x.busiest(101), NONE);
        row("33: refused", x, 7);
        x.ticks(50);
        is("33: nothing", x.busiest(100), 50);
        row("33: nothing", x, 0, 0);
        x.sets(4, 0, 0, 1, 0);
        x.sets(6, 0, 1, 4, 2);
        x.sets(10, 0, 0, 1, 0);
        is("33: one at once", x.busiest(9), 54);
        row("33: more such", x, 1, 1);
        is("33: two at once", x.busiest(10), 60);
        row("33: no more such", x, 2, 0);
        x.sets(4, 0, 0, 1, 0);
        is("33: of equal ones the first", x.busiest(10), 54);
        row("33: more such", x, 2, 1);
        is("33: but one tick of it", x.busiest(4), 54);
        row("33: no more such", x, 2, 0);
        is("33: fewer are no such", x.busiest(9), 54);
        row("33: fewer are no such", x, 2, 0);
    }

    private static void promise34Till() {
        DueWheels x = withRowSeven();
        is("34: 0", x.till(0), NONE);
        is("34: 101", x.till(101), NONE);
        is("34: fewer", x.till(1), -2);
        row("34: refused", x, 7);
        x.ticks(100);
        is("34: at the last of 100", x.till(1), 200);
        row("34: eight moved at 192, four more at 200", x, 1, 12);
        is("34: two come too late", x.till(2), -2);
        x.sets(5, 0, 1, 5, 0);
        x.sets(10, 0, 0, 1, 0);
        is("34: three at once", x.till(2), 110);
        row("34: more than asked; moved at 104 and two at 108", x, 3, 3);
        is("34: not changed", x.told(1), 0);
        DueWheels y = new DueWheels();
        y.sets(1, 0, 1, 1, 0);
        is("34: 100", y.till(100), 100);
        row("34: 100", y, 100, 0);
        y.ticks(50);
        is("34: from now on", y.till(100), 150);
        is("34: no further than it must", y.till(7), 57);
        row("34: no further", y, 7, 0);
        DueWheels z = new DueWheels();
        z.sets(5, 0, 1, 5, 0);
        z.ticks(5);
        is("34: MOVED before", z.told(1), 1);
        is("34: MOVED from now on", z.till(2), 15);
        row("34: MOVED from now on", z, 2, 2);
        z.wheels(2, 3, 4, 5);
        is("34: by other wheels", z.till(2), 15);
        row("34: MOVED at 10 and at 14", z, 2, 2);
        z.wheels(6, 0, 0, 0);
        is("34: by one wheel", z.till(2), 15);
        row("34: none MOVED", z, 2, 0);
        z.wheels(2, 4, 0, 0);
        z.delays(0, 15);
        is("34: far", z.till(1), 20);
        row("34: MOVED at 16 and at 20", z, 1, 2);
    }

    private static void promise35Loudest() {
        DueWheels x = withRowSeven();
        is("35: 0", x.loudest(0), NONE);
        is("35: 101", x.loudest(101), NONE);
        is("35: none", x.loudest(100), -2);
        row("35: refused", x, 7);
        x.sets(2, 6, 1, 2, 0);
        x.sets(3, 4, 1, 3, 0);
        is("35: of equal ones the least", x.loudest(3), 4);
        row("35: each", x, 0, 0, 0, 0, 1, 0, 1, 0);
        is("35: most", x.loudest(12), 6);
        row("35: each", x, 0, 0, 0, 0, 4, 0, 6, 0);
        x.sets(1, 4, 0, 1, 0);
        x.sets(1, 4, 0, 1, 0);
        x.sets(1, 4, 0, 1, 0);
        is("35: by groups", x.loudest(12), 4);
        row("35: each", x, 0, 0, 0, 0, 7, 0, 6, 0);
        x.sets(1, 1, 0, 1, 0);
        is("35: anew each time", x.loudest(1), 4);
        row("35: each", x, 0, 1, 0, 0, 3, 0, 0, 0);
        DueWheels y = sixteen();
        is("35: group 0 of equal ones", y.loudest(16), 0);
        row("35: each", y, 2, 2, 2, 2, 2, 2, 2, 2);
        y.cancels(0);
        is("35: group 1", y.loudest(15), 1);
        row("35: each", y, 1, 2, 2, 2, 2, 2, 2, 1);
        is("35: the last group", y.loudest(8), 1);
        y.ticks(7);
        is("35: group 7 first", y.loudest(1), 7);
    }

    private static void promise36Clashes() {
        DueWheels x = withRowSeven();
        is("36: 0", x.clashes(0), NONE);
        is("36: 101", x.clashes(101), NONE);
        row("36: refused", x, 7);
        is("36: none", x.clashes(100), 0);
        row("36: none", x, NONE, NONE, NONE);
        x.sets(3, 5, 1, 3, 0);
        x.sets(2, 4, 1, 2, 0);
        x.sets(6, 3, 0, 1, 0);
        is("36: two", x.clashes(12), 2);
        row("36: the first in ORDER", x, 6, 8, 9);
        x.order(1);
        is("36: two", x.clashes(12), 2);
        row("36: by GROUP", x, 6, 10, 9);
        x.order(2);
        x.clashes(6);
        row("36: the latest", x, 6, 10, 9);
        is("36: not yet", x.clashes(5), 0);
        row("36: not yet", x, NONE, NONE, NONE);
        x.cancels(10);
        is("36: two at once", x.clashes(12), 2);
        row("36: two at once", x, 6, 9, 8);
    }

    private static void promise37Rung() {
        DueWheels x = withRowSeven();
        is("37: none yet", x.rung(0), NONE);
        is("37: below", x.rung(-1), NONE);
        row("37: refused", x, 7);
        x.sets(2, 3, 1, 2, 0);
        x.ticks(5);
        is("37: first", x.rung(0), 8);
        row("37: first", x, 2, 2, 3, 1);
        is("37: second", x.rung(1), 8);
        row("37: second", x, 4, 4, 3, 2);
        is("37: no third", x.rung(2), NONE);
        row("37: refused", x, 4, 4, 3, 2);
        x.leaps(197);
        is("37: by a leap", x.rung(2), 8);
        row("37: CLOCK then, what DUE was", x, 202, 6, 3, 3);
        is("37: by a leap, next", x.rung(3), 0);
        row("37: next", x, 202, 200, 0, 1);
        is("37: kept", x.count(7), 6);
        x.ticks(100);
        is("37: 40 kept", x.count(7), 40);
        is("37: the latest", x.rung(39), 8);
        row("37: the latest", x, 302, 302, 3, 53);
        is("37: the oldest", x.rung(0), 8);
        row("37: the oldest", x, 224, 224, 3, 14);
        is("37: no more", x.rung(40), NONE);
    }

    private static void promise38Told() {
        DueWheels x = new DueWheels();
        x.sets(5, 0, 1, 2, 0);
        x.sets(30, 1, 0, 1, 0);
        x.sets(40, 1, 0, 1, 0);
        x.sets(50, 2, 0, 1, 0);
        x.ticks(5);
        x.leaps(10);
        x.leaps(-7);
        x.leaps(1);
        x.leaps(-3);
        x.cancelsAll(1);
        x.cancels(3);
        long[] due = {2, 1, 4, 3, 11, 10, 4};
        for (int what = 0; what <= 6; what++) {
            is("38: " + what, x.told(what), due[what]);
        }
        is("38: below", x.told(-1), NONE);
        is("38: above", x.told(7), NONE);
    }

    private static void promise39Count() {
        DueWheels x = sixteen();
        x.wheels(5, 2, 0, 0);
        x.holds(3);
        x.order(1);
        x.ticks(2);
        x.sign(1);
        long[] due = {2, 2, 10, 14, 2, 6, 1, 2, 4, 4, 5, 2, 0, 0};
        for (int what = 0; what <= 13; what++) {
            is("39: " + what, x.count(what), due[what]);
        }
        is("39: below", x.count(-1), NONE);
        is("39: above", x.count(14), NONE);
    }

    private static void promise40Row() {
        DueWheels x = new DueWheels();
        Check.noSuch("40: none yet", () -> x.row(0));
        x.sets(8, 0, 0, 1, 0);
        x.sets(9, 0, 0, 1, 0);
        x.group(0);
        is("40: first", x.row(0), 0);
        is("40: second", x.row(1), 1);
        Check.noSuch("40: no third", () -> x.row(2));
        Check.noSuch("40: below", () -> x.row(-1));
        x.moves(0);
        x.count(0);
        x.told(0);
        row("40: calls that tell none leave it", x, 0, 1);
        x.delays(0, 2);
        is("40: below 0", x.row(0), -6);
        x.slot(0, 0);
        Check.noSuch("40: empty", () -> x.row(0));
    }
}
