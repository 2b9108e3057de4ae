import java.util.function.Consumer;
import java.util.function.ToIntFunction;

/** The edges of the history, the snapshot and the errors: promises 11 to 13, and their terms. */
public final class HistoryEdgesTest extends Bench {
    public static void main(String[] args) {
        historyIsEmptyAtFirst();
        historyHas4States();
        oldestIsDropped();
        historyGoesRoundOften();
        undoOfNothing();
        undoIsNoAct();
        everyActIsRecorded();
        noOtherCallIsRecorded();
        refusedCallsAreNotRecorded();
        undoBringsAllBack();
        undoLeavesTheText();
        undoLeavesTheSnapshot();
        undoLeavesTheStop();
        snapshotIsEmptyAtFirst();
        snapshotOfAnEmptyPackage();
        snapshotIsACopy();
        keepTakesThePlace();
        restoreIsAnAct();
        restoreLeavesTextAndStop();
        restoreBringsAllBack();
        constantsOfErrors();
        firstErrorIsTold();
        refusedCallsLeaveNoTrace();
        callsUpTo512();
        due.end();
    }

    private static void historyIsEmptyAtFirst() {
        due.about("\"A history of at most 4 states\", empty at first");
        ThreadWinder x = new ThreadWinder();
        counts(x, STATES, 0);
        due.is("undo()", x.undo(), NONE);
        counts(x, STATES, 0);
    }

    private static void historyHas4States() {
        due.about("\"A history of at most 4 states is kept\"");
        ThreadWinder x = new ThreadWinder();
        for (int act = 1; act <= 6; act++) {
            due.is("wind(1)", x.wind(1), 1);
            counts(x, STATES, Math.min(act, 4));
        }
    }

    private static void oldestIsDropped() {
        due.about("\"when one more is recorded, the oldest one is dropped\"");
        for (int acts = 3; acts <= 6; acts++) {
            ThreadWinder x = new ThreadWinder();
            for (int act = 1; act <= acts; act++) {
                x.wind(act);
            }
            int wraps = acts * (acts + 1) / 2;
            int kept = Math.min(acts, 4);
            counts(x, WRAPS, wraps);
            for (int i = 1; i <= kept; i++) {
                due.is("undo() of " + acts, x.undo(), kept - i);
                wraps -= acts + 1 - i;
                counts(x, WRAPS, wraps);
            }
            due.is("undo() of nothing", x.undo(), NONE);
            counts(x, WRAPS, wraps);
        }
    }

    private static void historyGoesRoundOften() {
        due.about("undo() between acts, often");
        ThreadWinder x = new ThreadWinder();
        int[] values = new int[100];
        values[0] = 60;
        int top = 0;
        int kept = 0;
        for (int i = 1; i <= 90; i++) {
            boolean back = i % 7 == 3 || i % 7 == 5 || i % 31 > 26;
            if (back) {
                due.is("undo() at " + i, x.undo(), kept == 0 ? NONE : kept - 1);
                top -= kept == 0 ? 0 : 1;
                kept = Math.max(kept - 1, 0);
            } else {
                int value = values[top] == 99 ? 10 : values[top] + 1;
                due.is("set() at " + i, x.set(STRENGTH, value), values[top]);
                top++;
                values[top] = value;
                kept = Math.min(kept + 1, 4);
            }
            counts(x, NUMBERS + STRENGTH, values[top]);
            counts(x, STATES, kept);
        }
    }

    private static void undoOfNothing() {
        due.about("promise 11: \"NONE if the history is empty\"");
        unchanged("at first", x -> { }, x -> x.undo(), NONE);
        unchanged("with a text and a snapshot", x -> {
            x.keep();
            performed(x, "x");
        }, x -> x.undo(), NONE);
        unchanged("behind four", x -> {
            busy(x);
            for (int i = 0; i < 4; i++) {
                x.undo();
            }
        }, x -> x.undo(), NONE);
    }

    private static void undoIsNoAct() {
        due.about("promise 11: \"Removes and restores the latest state\"");
        ThreadWinder x = new ThreadWinder();
        x.set(TRAVERSE, 1);
        x.set(TRAVERSE, 2);
        due.is("one is left", x.undo(), 1);
        counts(x, STATES, 1);
        counts(x, NUMBERS + TRAVERSE, 1);
        due.is("none is left, and no NONE", x.undo(), 0);
        counts(x, STATES, 0);
        counts(x, NUMBERS + TRAVERSE, 5);
        due.is("what was undone does not come back", x.undo(), NONE);
        counts(x, NUMBERS + TRAVERSE, 5);
    }

    private static void act(String call, Consumer<ThreadWinder> before, ToIntFunction<ThreadWinder> taken,
            int want) {
        ThreadWinder x = new ThreadWinder();
        before.accept(x);
        int states = x.count(STATES);
        due.is(call, taken.applyAsInt(x), want);
        due.is(call + " is recorded", x.count(STATES), states + 1);
        due.is("undo() of " + call, x.undo(), states);
        ThreadWinder twin = new ThreadWinder();
        before.accept(twin);
        alike("undo() of " + call, x, twin);
    }

    private static void everyActIsRecorded() {
        due.about("\"Each call of a method that is described as an act .. records the state\"");
        Consumer<ThreadWinder> two = x -> {
            x.wind(12);
            x.set(STRENGTH, 25);
            x.keep();
            write(x, "g3,w2");
        };
        act("set(2, 5)", two, x -> x.set(WOBBLE, 5), 0);
        act("set(1, 0)", two, x -> x.set(DISCS, 0), 3);
        act("wind(4)", two, x -> x.wind(4), 4);
        act("cone(100)", two, x -> x.cone(100), 4880);
        act("doff()", two, x -> x.doff(), 12);
        act("perform()", two, x -> x.perform(), 2);
        act("restore()", two, x -> x.restore(), 12);
        act("wind(50) up to a break", two, x -> x.wind(50), 44);
        Consumer<ThreadWinder> broken = x -> {
            x.set(STRENGTH, 10);
            x.wind(1);
            x.keep();
        };
        act("knot()", broken, x -> x.knot(), 1);
        act("cone(5) of a broken thread", broken, x -> x.cone(5), 4990);
        act("doff() of a broken thread", broken, x -> x.doff(), 1);
        due.about("\"and returns no error and not NONE\": 0 is neither");
        act("wind(1) without a wrap", x -> x.cone(9), x -> x.wind(1), 0);
        act("cone(5) behind an empty one", x -> leave(x, 0), x -> x.cone(5), 0);
        act("set(1, 4) of 0", x -> x.set(DISCS, 0), x -> x.set(DISCS, 4), 0);
        act("restore() of an empty package", x -> x.keep(), x -> x.restore(), 0);
        due.about("\"records the state that was before it\", also if nothing is changed");
        act("perform() that does nothing", x -> write(x, "t5,n"), x -> x.perform(), 2);
        act("cone(5000) in the place of 5000", x -> { }, x -> x.cone(5000), 5000);
    }

    private static void noOtherCallIsRecorded() {
        due.about("\"a method that is described as an act\": the others are none");
        ThreadWinder x = new ThreadWinder();
        x.wind(30);
        x.type('n');
        x.clearText();
        x.stopped();
        x.keep();
        x.place(0, 0);
        x.wrong();
        x.breaksIn();
        x.ifTraverse(3, 50, 1);
        x.bestTraverse(50);
        x.period(3);
        x.count(0);
        counts(x, STATES, 1);
        due.is("undo()", x.undo(), 0);
        counts(x, WRAPS, 0);
    }

    private static void refusedCallsAreNotRecorded() {
        due.about("\"A call that returns an error or NONE changes nothing\"");
        unchanged("set(9, 1)", Bench::busy, x -> x.set(9, 1), UNKNOWN);
        unchanged("set(0, 12)", Bench::busy, x -> x.set(TRAVERSE, 12), BAD_VALUE);
        unchanged("set(0, 7)", Bench::busy, x -> x.set(TRAVERSE, 7), NONE);
        unchanged("wind(0)", Bench::busy, x -> x.wind(0), BAD_VALUE);
        unchanged("knot()", Bench::busy, x -> x.knot(), NONE);
        unchanged("cone(0)", Bench::busy, x -> x.cone(0), BAD_VALUE);
        unchanged("perform()", x -> {
            busy(x);
            write(x, "t1,q");
        }, x -> x.perform(), -103);
        unchanged("restore()", x -> x.wind(3), x -> x.restore(), NONE);
        unchanged("place(12, 0)", Bench::busy, x -> x.place(12, 0), UNKNOWN);
        unchanged("place(0, 4)", Bench::busy, x -> x.place(0, 4), BAD_VALUE);
        unchanged("breaksIn()", Bench::busy, x -> x.breaksIn(), NONE);
        unchanged("breaksIn() of an empty cone", x -> leave(x, 0), x -> x.breaksIn(), NOT_POSSIBLE);
        unchanged("ifTraverse(0, 1, 0)", Bench::busy, x -> x.ifTraverse(0, 1, 0), BAD_VALUE);
        unchanged("bestTraverse(501)", Bench::busy, x -> x.bestTraverse(501), BAD_VALUE);
        unchanged("period(12)", Bench::busy, x -> x.period(12), BAD_VALUE);
        unchanged("count(17)", Bench::busy, x -> x.count(17), BAD_VALUE);
    }

    private static void undoBringsAllBack() {
        due.about("\"A state is everything but ..\": undo() of many acts in one");
        ThreadWinder x = new ThreadWinder();
        ThreadWinder y = new ThreadWinder();
        x.wind(33);
        y.wind(33);
        write(x, "t11,d9,w5,k5,s10,g1,n,g1,n,g1,n,g1,c200");
        write(y, "t11,d9,w5,k5,s10,g1,n,g1,n,g1,n,g1,c200");
        due.is("perform()", x.perform(), 13);
        counts(x, BREAKS, 4);
        counts(x, ALL_KNOTS, 3);
        counts(x, BROKEN, 1);
        counts(x, TURNS, 37);
        x.doff();
        counts(x, PACKAGES, 1);
        x.undo();
        x.undo();
        counts(x, PACKAGES, 0);
        counts(x, BREAKS, 0);
        counts(x, TURNS, 33);
        alike("undo() twice", x, y);
    }

    private static void undoLeavesTheText() {
        due.about("\"everything but the text\": undo()");
        ThreadWinder x = new ThreadWinder();
        write(x, "n,n");
        x.wind(1);
        write(x, "t4");
        x.undo();
        counts(x, TEXT_LENGTH, 2);
        due.is("perform()", x.perform(), 1);
        counts(x, NUMBERS + TRAVERSE, 4);
        x.undo();
        counts(x, NUMBERS + TRAVERSE, 5);
        due.is("perform() again", x.perform(), 1);
        x.clearText();
        x.undo();
        counts(x, TEXT_LENGTH, 0);
    }

    private static void undoLeavesTheSnapshot() {
        due.about("\"everything but .. the snapshot\": undo()");
        ThreadWinder x = new ThreadWinder();
        x.wind(2);
        x.keep();
        x.undo();
        counts(x, WRAPS, 0);
        due.is("restore()", x.restore(), 2);
        x.wind(3);
        x.keep();
        x.undo();
        x.undo();
        counts(x, WRAPS, 0);
        due.is("the later one", x.restore(), 5);
    }

    private static void undoLeavesTheStop() {
        due.about("\"everything but .. the latest stop\": undo()");
        ThreadWinder x = new ThreadWinder();
        x.wind(1);
        performed(x, "c9,n");
        x.undo();
        due.is("stopped()", x.stopped(), 1);
    }

    private static void snapshotIsEmptyAtFirst() {
        due.about("\"There is one snapshot, empty at first\"");
        unchanged("restore() at first", x -> { }, x -> x.restore(), NONE);
        unchanged("restore() behind acts", x -> {
            x.wind(8);
            x.doff();
            x.wind(3);
            write(x, "n");
        }, x -> x.restore(), NONE);
    }

    private static void snapshotOfAnEmptyPackage() {
        due.about("promise 12: \"Returns the wraps of the package\": 0 is a snapshot too");
        ThreadWinder x = new ThreadWinder();
        due.is("keep()", x.keep(), 0);
        counts(x, STATES, 0);
        due.is("restore()", x.restore(), 0);
        counts(x, STATES, 1);
        x.wind(3);
        due.is("restore() again", x.restore(), 0);
        counts(x, LEFT, 5000);
    }

    private static void snapshotIsACopy() {
        due.about("promise 13: \"Restores the state of the snapshot, which stays\"");
        ThreadWinder x = new ThreadWinder();
        x.wind(6);
        due.is("keep()", x.keep(), 6);
        for (int i = 1; i <= 6; i++) {
            x.wind(10 * i);
            x.set(STRENGTH, 60 + i);
            due.is("restore() " + i, x.restore(), 6);
            counts(x, WRAPS, 6);
            counts(x, LEFT, 4940);
            counts(x, TURNS, 6);
            counts(x, NUMBERS + STRENGTH, 60);
            due.is("height", x.place(3, HEIGHT), 1);
        }
    }

    private static void keepTakesThePlace() {
        due.about("promise 12: \"in place of the one that was\"");
        ThreadWinder x = new ThreadWinder();
        x.wind(4);
        x.keep();
        x.doff();
        due.is("keep() of none", x.keep(), 0);
        x.wind(2);
        due.is("restore()", x.restore(), 0);
        counts(x, PACKAGES, 1);
        x.wind(2);
        due.is("keep() twice", x.keep(), 2);
        due.is("keep() twice", x.keep(), 2);
        x.doff();
        due.is("restore()", x.restore(), 2);
    }

    private static void restoreIsAnAct() {
        due.about("promise 13: \"This is an act\"");
        ThreadWinder x = new ThreadWinder();
        x.wind(4);
        x.keep();
        x.wind(5);
        due.is("restore()", x.restore(), 4);
        counts(x, STATES, 3);
        due.is("undo()", x.undo(), 2);
        counts(x, WRAPS, 9);
        for (int i = 0; i < 6; i++) {
            x.restore();
        }
        due.is("the history is not that of the snapshot", x.count(STATES), 4);
        due.is("undo()", x.undo(), 3);
        counts(x, WRAPS, 4);
    }

    private static void restoreLeavesTextAndStop() {
        due.about("\"everything but the text .. and the latest stop\": restore()");
        ThreadWinder x = new ThreadWinder();
        write(x, "n,n");
        x.keep();
        performed(x, "c9,n");
        x.restore();
        counts(x, TEXT_LENGTH, 4);
        due.is("perform()", x.perform(), NOT_POSSIBLE);
        due.is("stopped()", x.stopped(), 1);
    }

    private static void restoreBringsAllBack() {
        due.about("promise 13: \"Restores the state\"");
        ThreadWinder x = new ThreadWinder();
        ThreadWinder y = new ThreadWinder();
        busy(x);
        busy(y);
        x.keep();
        y.keep();
        int wraps = x.count(WRAPS);
        performed(x, "t11,d9,w5,k5,s10,g9,n,g9,c200");
        x.doff();
        due.is("restore()", x.restore(), wraps);
        x.undo();
        x.undo();
        x.undo();
        write(x, "d4");
        due.is("undone to the same", x.count(WRAPS), wraps);
        x.restore();
        y.restore();
        for (int what = WRAPS; what < STATES; what++) {
            due.is("count(" + what + ")", x.count(what), y.count(what));
        }
        due.is("wind(9)", x.wind(9), y.wind(9));
        due.is("tension", x.count(TENSION), y.count(TENSION));
        x.cone(50);
        y.cone(50);
        due.is("knot()", x.knot(), y.knot());
        for (int place = 0; place < 12; place++) {
            due.is("knots of " + place, x.place(place, KNOTS), y.place(place, KNOTS));
        }
    }

    private static void constantsOfErrors() {
        due.about("\"The constants\"");
        due.is("UNKNOWN", ThreadWinder.UNKNOWN, -1);
        due.is("BAD_VALUE", ThreadWinder.BAD_VALUE, -2);
        due.is("FULL", ThreadWinder.FULL, -3);
        due.is("NOT_POSSIBLE", ThreadWinder.NOT_POSSIBLE, -4);
        due.is("NONE", ThreadWinder.NONE, -5);
    }

    private static void firstErrorIsTold() {
        due.about("\"Where several errors can apply, the order of the @return line is the order\"");
        ThreadWinder x = new ThreadWinder();
        due.is("set: UNKNOWN, BAD_VALUE", x.set(5, -1), UNKNOWN);
        due.is("place: UNKNOWN, BAD_VALUE", x.place(-1, 4), UNKNOWN);
        due.is("place: BAD_VALUE", x.place(11, 4), BAD_VALUE);
        x.cone(10);
        x.wind(1);
        due.is("knot: NOT_POSSIBLE, NONE", x.knot(), NOT_POSSIBLE);
        due.is("wind: BAD_VALUE, NONE", x.wind(501), BAD_VALUE);
        due.is("wind: NONE", x.wind(500), NONE);
        due.is("perform: the fault, NOT_POSSIBLE", performed(x, "n,"), -102);
        due.is("perform: NOT_POSSIBLE", performed(x, "n"), NOT_POSSIBLE);
    }

    /** A stop, then nine wraps and a broken thread by one act, and the text of the stop again. */
    private static void begun(ThreadWinder x) {
        performed(x, "t2,d5,c9,n");
        performed(x, "g9,c400");
        x.keep();
        write(x, "t2,d5,c9,n");
    }

    private static void acts(String behind, ToIntFunction<ThreadWinder> taken, int want) {
        String[] names = {"set", "wind", "knot", "cone", "doff", "perform", "restore", "undo", "keep"};
        for (int i = 0; i < names.length; i++) {
            ThreadWinder x = new ThreadWinder();
            ThreadWinder twin = new ThreadWinder();
            begun(x);
            begun(twin);
            if (i == 1) {
                x.knot();
                twin.knot();
            }
            due.is(behind, taken.applyAsInt(x), want);
            due.is(names[i] + " behind " + behind, oneAct(x, i), oneAct(twin, i));
            alike(names[i] + " behind " + behind, x, twin);
        }
    }

    private static int oneAct(ThreadWinder x, int which) {
        switch (which) {
            case 0:
                return x.set(WOBBLE, 2);
            case 1:
                return x.wind(5);
            case 2:
                return x.knot();
            case 3:
                return x.cone(77);
            case 4:
                return x.doff();
            case 5:
                return performed(x, "c60,n,t2");
            case 6:
                return x.restore();
            case 7:
                return x.undo();
            default:
                return x.keep();
        }
    }

    private static void refusedCallsLeaveNoTrace() {
        due.about("\"changes nothing\": neither for the act that follows");
        acts("a stop", x -> x.perform(), NOT_POSSIBLE);
        acts("a wrong number", x -> x.set(STRENGTH, 9), BAD_VALUE);
        acts("no turns", x -> x.wind(0), BAD_VALUE);
        acts("a look ahead, and traverses", x -> {
            x.breaksIn();
            x.bestTraverse(50);
            return x.ifTraverse(11, 300, 0);
        }, 150);
        due.about("\"Removes and restores the latest state\": for the act that follows");
        acts("an act undone", x -> {
            x.doff();
            return Math.min(x.undo(), 1);
        }, 1);
        acts("two acts undone", x -> {
            x.doff();
            x.wind(7);
            x.undo();
            return Math.min(x.undo(), 1);
        }, 1);
    }

    private static void callsUpTo512() {
        due.about("\"An object is used for at most 512 calls\": the last of them");
        ThreadWinder x = new ThreadWinder();
        for (int call = 1; call <= 510; call++) {
            x.set(STRENGTH, 10 + call % 90);
        }
        due.is("call 511", x.count(STATES), 4);
        due.is("call 512", x.undo(), 3);
        x = new ThreadWinder();
        x.set(WOBBLE, 5);
        for (int call = 2; call <= 511; call++) {
            due.is("bestTraverse(500)", x.bestTraverse(500), 2);
        }
        due.is("call 512", x.wind(1), 1);
    }
}
