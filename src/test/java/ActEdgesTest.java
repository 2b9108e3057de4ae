/** The edges of the numbers and of winding: promises 1 to 6, sentence by sentence. */
public final class ActEdgesTest extends Bench {
    public static void main(String[] args) {
        newObjectIsEmpty();
        setKnowsFiveNumbers();
        setKeepsRanges();
        setLooksAtTheNumberFirst();
        setOfWhatIsSoAlready();
        windKeepsItsRange();
        windLooksAtItsRangeFirst();
        windOfIdleTurns();
        windTellsOfWrapsAlone();
        windOneByOneIsAlike();
        knotOfTooLittle();
        knotLooksAtTheLengthFirst();
        knotOfAWholeThread();
        knotTellsOfThePlace();
        coneKeepsItsRange();
        coneTellsWhatWasLeft();
        coneBreaksWithAWrapAlone();
        coneOnAFullPackage();
        doffOfNothing();
        doffPutsTheGuideAt0();
        doffLetsOthersStay();
        doffEndsABreak();
        doffOfAFullPackage();
        due.end();
    }

    private static void newObjectIsEmpty() {
        due.about("\"Creates an empty package, and a cone of 5000\"");
        ThreadWinder x = new ThreadWinder();
        for (int what = WRAPS; what <= TEXT_LENGTH; what++) {
            counts(x, what, what == LEFT ? 5000 : 0);
        }
        places(x, HEIGHT, 0, 0, 0, 0, 0, 0, 0, 0, 0, 0, 0, 0);
        places(x, KNOTS, 0, 0, 0, 0, 0, 0, 0, 0, 0, 0, 0, 0);
        places(x, BAD, 0, 0, 0, 0, 0, 0, 0, 0, 0, 0, 0, 0);
        due.is("doff()", x.doff(), NONE);
        due.is("cone(1)", x.cone(1), 5000);
        ThreadWinder y = new ThreadWinder();
        due.is("another is new as well", y.cone(1), 5000);
        due.is("and has its own history", y.undo(), 0);
        due.is("the first one's stands", x.count(STATES), 1);
    }

    private static void setKnowsFiveNumbers() {
        due.about("promise 2: \"UNKNOWN\" but for 0 to 4");
        int[] whiches = {-1, 5, 20, MIN, MAX};
        for (int which : whiches) {
            unchanged("set(" + which + ", 5)", Bench::busy, x -> x.set(which, 5), UNKNOWN);
        }
        ThreadWinder x = new ThreadWinder();
        due.is("the first", x.set(0, 6), 5);
        due.is("the last", x.set(4, 61), 60);
    }

    private static void setKeepsRanges() {
        due.about("promise 2: \"BAD_VALUE\" but for a value in its range");
        for (int which = 0; which < 5; which++) {
            int[] values = {LOWEST[which] - 1, HIGHEST[which] + 1, -1, MIN, MAX};
            for (int value : values) {
                int number = which;
                unchanged("set(" + which + ", " + value + ")", Bench::busy, x -> x.set(number, value),
                    BAD_VALUE);
            }
            for (int value = LOWEST[which]; value <= HIGHEST[which]; value++) {
                ThreadWinder x = new ThreadWinder();
                int want = value == FIRST[which] ? NONE : FIRST[which];
                due.is("set(" + which + ", " + value + ")", x.set(which, value), want);
                counts(x, NUMBERS + which, value);
                counts(x, STATES, want == NONE ? 0 : 1);
            }
        }
    }

    private static void setLooksAtTheNumberFirst() {
        due.about("promise 2: UNKNOWN before BAD_VALUE");
        ThreadWinder x = new ThreadWinder();
        due.is("set(5, -1)", x.set(5, -1), UNKNOWN);
        due.is("set(-1, -1)", x.set(-1, -1), UNKNOWN);
        due.is("set(5, 100)", x.set(5, 100), UNKNOWN);
        due.is("set(MIN, MIN)", x.set(MIN, MIN), UNKNOWN);
    }

    private static void setOfWhatIsSoAlready() {
        due.about("promise 2: \"NONE if it is so already\"");
        for (int which = 0; which < 5; which++) {
            int number = which;
            unchanged("as it was at first", x -> x.wind(1), x -> x.set(number, FIRST[number]), NONE);
            unchanged("the lowest again", x -> {
                x.wind(2);
                x.set(number, HIGHEST[number]);
                x.set(number, LOWEST[number]);
            }, x -> x.set(number, LOWEST[number]), NONE);
            unchanged("the highest again", x -> x.set(number, HIGHEST[number]),
                x -> x.set(number, HIGHEST[number]), NONE);
        }
    }

    private static void windKeepsItsRange() {
        due.about("promise 3: \"turns: 1 to 500\"");
        int[] bad = {0, -1, 501, 1000, MIN, MAX};
        for (int turns : bad) {
            unchanged("wind(" + turns + ")", Bench::busy, x -> x.wind(turns), BAD_VALUE);
        }
        ThreadWinder x = strong();
        due.is("wind(1)", x.wind(1), 1);
        due.is("wind(499)", x.wind(499), x.count(WRAPS) - 1);
        x = strong();
        due.is("wind(500)", x.wind(500), x.count(WRAPS));
        counts(x, LEFT, 0);
    }

    private static void windLooksAtItsRangeFirst() {
        due.about("promise 3: BAD_VALUE before NONE");
        ThreadWinder x = new ThreadWinder();
        x.set(STRENGTH, 10);
        x.wind(1);
        due.is("wind(0), broken", x.wind(0), BAD_VALUE);
        due.is("wind(501), broken", x.wind(501), BAD_VALUE);
        due.is("wind(500), broken", x.wind(500), NONE);
    }

    private static void windOfIdleTurns() {
        due.about("promise 3: \"NONE if all these turns would be idle\"");
        ThreadWinder x = new ThreadWinder();
        x.cone(21);
        due.is("one of these is not", x.wind(3), 2);
        due.is("the rest was used up without a wrap", x.count(LEFT), 0);
        counts(x, STATES, 2);
        due.is("all are", x.wind(3), NONE);
        counts(x, STATES, 2);
        x.cone(5);
        due.is("all are, behind the new cone", x.wind(1), NONE);
        x.doff();
        due.is("one is not, though it lays nothing", x.wind(1), 0);
        counts(x, STATES, 4);
        x.undo();
        due.is("it was an act", x.count(LEFT), 5);
    }

    private static void windTellsOfWrapsAlone() {
        due.about("promise 3: \"Returns how many wraps are laid\"");
        ThreadWinder x = new ThreadWinder();
        x.cone(35);
        due.is("three, and a turn without", x.wind(500), 3);
        counts(x, TURNS, 4);
        x = new ThreadWinder();
        x.set(STRENGTH, 12);
        due.is("up to the break", x.wind(500), 6);
        x.knot();
        x.set(STRENGTH, 60);
        due.is("those of this call alone", x.wind(4), 4);
    }

    private static void windOneByOneIsAlike() {
        due.about("wind(n) is n times wind(1)");
        ThreadWinder x = new ThreadWinder();
        ThreadWinder y = new ThreadWinder();
        x.wind(150);
        for (int i = 0; i < 150; i++) {
            y.wind(1);
        }
        for (int what = WRAPS; what < STATES; what++) {
            due.is("count(" + what + ")", x.count(what), y.count(what));
        }
        for (int place = 0; place < 12; place++) {
            due.is("height of " + place, x.place(place, HEIGHT), y.place(place, HEIGHT));
        }
    }

    private static void knotOfTooLittle() {
        due.about("promise 4: \"NOT_POSSIBLE if the cone has less than the knot length\"");
        int[] lengths = {5, 10, 50};
        for (int length : lengths) {
            unchanged("knot() of " + length, x -> {
                busy(x);
                x.set(KNOT_LENGTH, length);
                x.cone(length - 1);
            }, x -> x.knot(), NOT_POSSIBLE);
        }
        unchanged("knot() with an empty cone", x -> {
            x.set(STRENGTH, 10);
            x.cone(10);
            x.wind(1);
        }, x -> x.knot(), NOT_POSSIBLE);
        ThreadWinder x = new ThreadWinder();
        x.wind(1);
        x.cone(9);
        due.is("too little", x.knot(), NOT_POSSIBLE);
        x.set(KNOT_LENGTH, 9);
        due.is("enough for a shorter knot", x.knot(), 1);
    }

    private static void knotLooksAtTheLengthFirst() {
        due.about("promise 4: NOT_POSSIBLE before NONE");
        unchanged("too little, and a whole thread", x -> x.cone(9), x -> x.knot(), NOT_POSSIBLE);
        unchanged("none left, and a whole thread", x -> leave(x, 0), x -> x.knot(), NOT_POSSIBLE);
    }

    private static void knotOfAWholeThread() {
        due.about("promise 4: \"NONE if the thread is not broken\"");
        unchanged("at first", x -> { }, x -> x.knot(), NONE);
        unchanged("with just the knot length", x -> x.cone(10), x -> x.knot(), NONE);
        unchanged("with wraps", Bench::busy, x -> x.knot(), NONE);
        ThreadWinder x = new ThreadWinder();
        x.wind(1);
        x.cone(100);
        due.is("broken", x.knot(), 1);
        due.is("knotted already", x.knot(), NONE);
        counts(x, LEFT, 90);
        counts(x, ALL_KNOTS, 1);
    }

    private static void knotTellsOfThePlace() {
        due.about("promise 4: \"Returns how many knots the place has then\"");
        ThreadWinder x = strong();
        x.set(TRAVERSE, 11);
        x.wind(1);
        x.cone(500);
        due.is("the first at 0", x.knot(), 1);
        x.wind(1);
        x.cone(500);
        due.is("the first at 11", x.knot(), 1);
        x.cone(500);
        due.is("the second at 11", x.knot(), 2);
        x.wind(1);
        x.cone(500);
        due.is("the second at 0", x.knot(), 2);
        counts(x, ALL_KNOTS, 4);
        x.doff();
        x.wind(1);
        x.cone(500);
        due.is("the first of the next package", x.knot(), 1);
    }

    private static void coneKeepsItsRange() {
        due.about("promise 5: \"length: 1 to 9999\"");
        int[] bad = {0, -1, 10000, MIN, MAX};
        for (int length : bad) {
            unchanged("cone(" + length + ")", Bench::busy, x -> x.cone(length), BAD_VALUE);
        }
        ThreadWinder x = new ThreadWinder();
        due.is("cone(1)", x.cone(1), 5000);
        counts(x, LEFT, 1);
        due.is("cone(9999)", x.cone(9999), 1);
        counts(x, LEFT, 9999);
        counts(x, STATES, 2);
    }

    private static void coneTellsWhatWasLeft() {
        due.about("promise 5: \"Returns what was left of the old one\"");
        ThreadWinder x = new ThreadWinder();
        x.wind(1);
        due.is("5000 less a wrap", x.cone(60), 4990);
        x.knot();
        due.is("60 less a knot", x.cone(60), 50);
        due.is("all of it: as long, yet an act", x.cone(60), 60);
        counts(x, STATES, 4);
        x.doff();
        x.cone(5);
        x.wind(1);
        due.is("nothing, and no NONE", x.cone(60), 0);
        due.is("undo()", x.undo(), 3);
        counts(x, LEFT, 0);
    }

    private static void coneBreaksWithAWrapAlone() {
        due.about("promise 5: \"The thread is broken then, if any wrap was laid on the package\"");
        ThreadWinder x = new ThreadWinder();
        x.cone(9);
        counts(x, BROKEN, 0);
        x.wind(1);
        x.cone(100);
        due.is("a turn without a wrap", x.count(BROKEN), 0);
        x.wind(1);
        counts(x, BROKEN, 0);
        x.cone(100);
        due.is("one wrap", x.count(BROKEN), 1);
        x.cone(100);
        due.is("broken already", x.count(BROKEN), 1);
        x.knot();
        counts(x, BROKEN, 0);
        x.doff();
        x.cone(100);
        due.is("wraps of a package that was taken off", x.count(BROKEN), 0);
        due.is("so it winds on", x.wind(1), 1);
        x.cone(100);
        due.is("a wrap of the next", x.count(BROKEN), 1);
    }

    private static void coneOnAFullPackage() {
        due.about("promise 5, on a full package");
        ThreadWinder x = strong();
        x.set(TRAVERSE, 11);
        windTo(x, 399);
        leave(x, 700);
        due.is("cone(800)", x.cone(800), 700);
        counts(x, BROKEN, 1);
        counts(x, PACKAGE_FULL, 1);
    }

    private static void doffOfNothing() {
        due.about("promise 6: \"NONE if it had none\"");
        unchanged("at first", x -> { }, x -> x.doff(), NONE);
        unchanged("behind a turn without a wrap", x -> {
            x.cone(9);
            x.wind(1);
        }, x -> x.doff(), NONE);
        unchanged("behind doff()", x -> {
            busy(x);
            x.doff();
        }, x -> x.doff(), NONE);
        ThreadWinder x = new ThreadWinder();
        x.wind(1);
        due.is("one wrap", x.doff(), 1);
        counts(x, PACKAGES, 1);
        due.is("none", x.doff(), NONE);
        counts(x, PACKAGES, 1);
    }

    private static void doffPutsTheGuideAt0() {
        due.about("promise 6: \"the guide stands at the place 0 then, going forth\"");
        for (int place = 1; place <= 10; place++) {
            ThreadWinder x = guideAt(place, true);
            counts(x, GOES_BACK, 1);
            x.doff();
            counts(x, GUIDE, 0);
            counts(x, GOES_BACK, 0);
            step(x, 11);
            due.is("forth by 11", x.count(GUIDE), 11);
        }
    }

    private static void doffLetsOthersStay() {
        due.about("promise 6: \"the warmth, the cone and the numbers stay\"");
        ThreadWinder x = new ThreadWinder();
        for (int which = 0; which < 5; which++) {
            x.set(which, HIGHEST[which]);
        }
        x.cone(500);
        x.wind(40);
        int warmth = x.count(WARMTH);
        int left = x.count(LEFT);
        int turns = x.count(TURNS);
        int breaks = x.count(BREAKS);
        x.doff();
        due.holds("warm", warmth > 0);
        counts(x, WARMTH, warmth);
        counts(x, LEFT, left);
        counts(x, TURNS, turns);
        counts(x, BREAKS, breaks);
        for (int which = 0; which < 5; which++) {
            counts(x, NUMBERS + which, HIGHEST[which]);
        }
        counts(x, TENSION, 0);
        counts(x, EVENNESS, 0);
        x = new ThreadWinder();
        x.cone(10);
        x.wind(1);
        x.doff();
        due.is("an empty cone stays empty", x.count(CONE_EMPTY), 1);
        due.is("wind(1)", x.wind(1), NONE);
    }

    private static void doffEndsABreak() {
        due.about("promise 6: \"the thread is not broken any more\"");
        ThreadWinder x = new ThreadWinder();
        x.set(STRENGTH, 10);
        x.wind(1);
        x.doff();
        counts(x, BROKEN, 0);
        due.is("knot()", x.knot(), NONE);
        due.is("wind(1)", x.wind(1), 1);
        x.cone(100);
        x.doff();
        counts(x, BROKEN, 0);
        x.wind(1);
        x.knot();
        x.doff();
        due.is("no knots then", x.count(ALL_KNOTS), 0);
        places(x, KNOTS, 0, 0, 0, 0, 0, 0, 0, 0, 0, 0, 0, 0);
        places(x, HEIGHT, 0, 0, 0, 0, 0, 0, 0, 0, 0, 0, 0, 0);
    }

    private static void doffOfAFullPackage() {
        due.about("promise 6: \"begins an empty one\", of a full one");
        ThreadWinder x = strong();
        x.set(TRAVERSE, 11);
        windTo(x, 399);
        leave(x, 700);
        due.is("doff()", x.doff(), 399);
        counts(x, PACKAGE_FULL, 0);
        due.is("wind(3)", x.wind(3), 3);
        due.is("height of 0", x.place(0, HEIGHT), 2);
        due.is("undo()", x.undo(), 3);
        due.is("undo()", x.undo(), 2);
        due.is("full again", x.count(PACKAGE_FULL), 1);
        due.is("idle again", x.wind(1), NONE);
    }
}
