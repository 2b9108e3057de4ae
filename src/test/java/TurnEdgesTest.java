import java.util.Arrays;

/** The edges of the package, the guide, a turn, ribbons and knots: each sentence of the terms. */
public final class TurnEdgesTest extends Bench {
    public static void main(String[] args) {
        placesAreTwelve();
        heightsBeginAt0();
        heightsEndAt200();
        guideBeginsAt0();
        guideTurnsAbout();
        guideTurnsAtTheEndsThemselves();
        numbersHaveRanges();
        brokenThreadIsIdle();
        emptyConeIsIdle();
        shortThreadLaysNoWrap();
        coneIsEmptyHoweverThatCame();
        tensionOfTheFirstWrap();
        tensionByTheStep();
        tensionByTheStepOverATurnWithoutWrap();
        tensionByTheWarmth();
        tensionByTheDiscs();
        warmthIsNotBelow0();
        warmthIsAtMost300();
        breakIsAboveTheStrength();
        breakAtTheGreatestStrength();
        breakIsBehindTheWrap();
        guideGoesOnBehindABreak();
        wobbleByItsNumber();
        wobbleCountsAllTurns();
        wobbleCountsNoIdleTurn();
        wobbleAtTheEnds();
        packageEndsAt200();
        fullPackageIsIdle();
        fullPackageTakesOtherActs();
        ribbonIsHigherThanBoth();
        ribbonAtTheEnds();
        evennessIsGreatestLessLeast();
        knotUsesUpItsLength();
        knotIsAtTheLastWrap();
        badIsMoreThanTwoKnots();
        due.end();
    }

    private static void placesAreTwelve() {
        due.about("\"The package has 12 places along it, numbered from 0\"");
        ThreadWinder x = new ThreadWinder();
        for (int what = HEIGHT; what <= BAD; what++) {
            due.is("below the first", x.place(-1, what), UNKNOWN);
            due.is("the first", x.place(0, what), 0);
            due.is("the last", x.place(11, what), 0);
            due.is("beyond the last", x.place(12, what), UNKNOWN);
        }
    }

    private static void heightsBeginAt0() {
        due.about("\"The height of a place is how many wraps lie on it (0 at first\"");
        ThreadWinder x = strong();
        places(x, HEIGHT, 0, 0, 0, 0, 0, 0, 0, 0, 0, 0, 0, 0);
        x.set(TRAVERSE, 1);
        x.wind(1);
        places(x, HEIGHT, 1, 0, 0, 0, 0, 0, 0, 0, 0, 0, 0, 0);
        x.wind(10);
        places(x, HEIGHT, 1, 1, 1, 1, 1, 1, 1, 1, 1, 1, 1, 0);
        x.wind(12);
        places(x, HEIGHT, 2, 2, 2, 2, 2, 2, 2, 2, 2, 2, 2, 1);
    }

    private static void heightsEndAt200() {
        due.about("\"at most 200\"");
        ThreadWinder x = strong();
        x.set(TRAVERSE, 11);
        windTo(x, 398);
        due.is("199", x.place(0, HEIGHT), 199);
        due.is("one turn more", x.wind(500), 1);
        due.is("200", x.place(0, HEIGHT), 200);
        x.cone(9999);
        x.knot();
        due.is("no turn more", x.wind(500), NONE);
        due.is("200 still", x.place(0, HEIGHT), 200);
    }

    private static void guideBeginsAt0() {
        due.about("\"The guide stands at a place (0 at first)\"");
        ThreadWinder x = new ThreadWinder();
        counts(x, GUIDE, 0);
        counts(x, GOES_BACK, 0);
        x.wind(1);
        due.is("the first wrap lies there", x.place(0, HEIGHT), 1);
    }

    private static void goesFrom(int place, boolean back, int traverse) {
        ThreadWinder x = guideAt(place, back);
        due.about("from " + place + (back ? " back" : " forth") + " by " + traverse);
        step(x, traverse);
        int straight = back ? place - traverse : place + traverse;
        int want = straight > 11 ? 22 - straight : straight < 0 ? -straight : straight;
        boolean turned = want != straight;
        counts(x, GUIDE, want);
        counts(x, GOES_BACK, want == 11 ? 1 : want == 0 ? 0 : back != turned ? 1 : 0);
    }

    private static void guideTurnsAbout() {
        for (int traverse = 1; traverse <= 11; traverse++) {
            for (int place = 0; place <= 11; place++) {
                goesFrom(place, place == 11, traverse);
            }
            for (int place = 1; place <= 10; place++) {
                goesFrom(place, true, traverse);
            }
        }
        due.about("\"so from 10 by 3 to 9\"");
        ThreadWinder x = guideAt(10, false);
        step(x, 3);
        counts(x, GUIDE, 9);
        counts(x, GOES_BACK, 1);
        due.about("\"or below 0, it goes back by what is left\"");
        x = guideAt(1, true);
        step(x, 3);
        counts(x, GUIDE, 2);
        counts(x, GOES_BACK, 0);
    }

    private static void guideTurnsAtTheEndsThemselves() {
        due.about("\"At the place 11 it goes back, at 0 it goes forth\"");
        ThreadWinder x = guideAt(10, false);
        step(x, 1);
        counts(x, GUIDE, 11);
        counts(x, GOES_BACK, 1);
        step(x, 1);
        counts(x, GUIDE, 10);
        counts(x, GOES_BACK, 1);
        x = guideAt(1, true);
        step(x, 1);
        counts(x, GUIDE, 0);
        counts(x, GOES_BACK, 0);
        step(x, 1);
        counts(x, GUIDE, 1);
        counts(x, GOES_BACK, 0);
    }

    private static void numbersHaveRanges() {
        due.about("\"There are these numbers (range; first value)\"");
        for (int which = 0; which < 5; which++) {
            ThreadWinder x = new ThreadWinder();
            counts(x, NUMBERS + which, FIRST[which]);
            due.is("too small", x.set(which, LOWEST[which] - 1), BAD_VALUE);
            due.is("too great", x.set(which, HIGHEST[which] + 1), BAD_VALUE);
            counts(x, NUMBERS + which, FIRST[which]);
            x.set(which, HIGHEST[which]);
            counts(x, NUMBERS + which, HIGHEST[which]);
            x.set(which, LOWEST[which]);
            counts(x, NUMBERS + which, LOWEST[which]);
        }
    }

    private static void brokenThreadIsIdle() {
        due.about("\"If the thread is broken .. the turn is idle: nothing more happens in it\"");
        unchanged("wind(1) behind a break", x -> {
            x.set(STRENGTH, 10);
            x.wind(1);
        }, x -> x.wind(1), NONE);
        unchanged("wind(500) behind a new cone", x -> {
            busy(x);
            x.cone(5000);
        }, x -> x.wind(500), NONE);
        ThreadWinder x = new ThreadWinder();
        x.set(STRENGTH, 10);
        due.is("the turns behind the break", x.wind(7), 1);
        counts(x, TURNS, 1);
        counts(x, LEFT, 4990);
        counts(x, WARMTH, 2);
        counts(x, GUIDE, 5);
    }

    private static void emptyConeIsIdle() {
        due.about("\"or there is none left on the cone, the turn is idle\"");
        unchanged("wind(1)", x -> {
            busy(x);
            leave(x, 0);
        }, x -> x.wind(1), NONE);
        unchanged("wind(500) on an empty package", x -> leave(x, 0), x -> x.wind(500), NONE);
        ThreadWinder x = new ThreadWinder();
        x.cone(20);
        due.is("the turns behind the last of the thread", x.wind(9), 2);
        counts(x, TURNS, 2);
        counts(x, WARMTH, 4);
        counts(x, GUIDE, 10);
    }

    /** A turn at the place 0, of this height, with this length left; whether it lays a wrap. */
    private static void turnWithLeft(int height, int left, boolean lays) {
        due.about("height " + height + ", " + left + " left");
        ThreadWinder x = strong();
        x.set(DISCS, 5);
        x.set(TRAVERSE, 11);
        if (height > 0) {
            x.wind(2 * height);
        }
        leave(x, left);
        x.set(STRENGTH, 10);
        int warmth = x.count(WARMTH);
        int tension = x.count(TENSION);
        due.is("not idle either way", x.wind(1), lays ? 1 : 0);
        counts(x, WRAPS, 2 * height + (lays ? 1 : 0));
        due.is("height", x.place(0, HEIGHT), height + (lays ? 1 : 0));
        counts(x, LEFT, lays ? left - 10 - height : 0);
        counts(x, TURNS, 2 * height + 1);
        counts(x, GUIDE, lays ? 11 : 0);
        counts(x, BROKEN, lays ? 1 : 0);
        counts(x, BREAKS, lays ? 1 : 0);
        counts(x, WARMTH, lays ? warmth + 4 : warmth);
        due.holds("tension only by a wrap", lays != (tension == x.count(TENSION)));
        due.is("idle then", x.wind(1), NONE);
    }

    private static void shortThreadLaysNoWrap() {
        // "The length of the wrap is 10 and the height of the place", "If the cone has less, all
        // that is left is used, and no wrap is laid; the turn ends with that (it is not idle)".
        for (int height = 0; height <= 15; height++) {
            turnWithLeft(height, 1, false);
            turnWithLeft(height, 9 + height, false);
            turnWithLeft(height, 10 + height, true);
            turnWithLeft(height, 11 + height, true);
        }
    }

    private static void emptyNow(ThreadWinder x) {
        counts(x, LEFT, 0);
        counts(x, CONE_EMPTY, 1);
        due.is("wrong()", x.wrong(), 2);
        due.is("wind(1)", x.wind(1), NONE);
        due.is("breaksIn()", x.breaksIn(), NOT_POSSIBLE);
    }

    private static void coneIsEmptyHoweverThatCame() {
        due.about("\"A cone is empty if nothing is left on it, however that came\": a wrap");
        ThreadWinder x = new ThreadWinder();
        x.cone(10);
        counts(x, CONE_EMPTY, 0);
        due.is("the wrap", x.wind(1), 1);
        emptyNow(x);

        due.about("\"A cone is empty if nothing is left on it, however that came\": a turn without");
        x = new ThreadWinder();
        x.cone(9);
        due.is("no wrap", x.wind(1), 0);
        emptyNow(x);

        due.about("\"A cone is empty if nothing is left on it, however that came\": a knot");
        x = new ThreadWinder();
        x.wind(1);
        x.cone(10);
        counts(x, CONE_EMPTY, 0);
        due.is("the knot", x.knot(), 1);
        emptyNow(x);

        due.about("\"A cone is empty if nothing is left on it\": 1 is left");
        x = new ThreadWinder();
        x.cone(1);
        counts(x, CONE_EMPTY, 0);
        due.is("wrong()", x.wrong(), 0);
        due.is("breaksIn()", x.breaksIn(), NONE);
        due.is("wind(1)", x.wind(1), 0);
        emptyNow(x);
    }

    private static void tensionOfTheFirstWrap() {
        due.about("\"no such part with the first wrap of the package\"");
        ThreadWinder x = strong();
        x.set(TRAVERSE, 11);
        x.wind(1);
        due.is("of the first package", x.count(TENSION), 0);
        x.wind(2);
        due.is("of the third wrap", x.count(TENSION), 2);
        x.doff();
        x.wind(1);
        due.is("of the next package", x.count(TENSION), 0);
        x.undo();
        x.undo();
        x.wind(2);
        due.is("of the fifth wrap of the first package, back again", x.count(TENSION), 2);
        x.keep();
        x.doff();
        x.wind(1);
        x.restore();
        x.wind(2);
        due.is("of the seventh wrap, restored", x.count(TENSION), 2);

        x = strong();
        x.keep();
        x.wind(5);
        x.restore();
        x.wind(1);
        due.is("of an empty package, restored", x.count(TENSION), 0);
    }

    private static void tensionByTheStep() {
        due.about("\"2 for each wrap by which the height of the place, as it is then, differs\"");
        ThreadWinder x = strong();
        x.set(TRAVERSE, 11);
        x.wind(2);
        due.is("as high: 1 and 1", x.count(TENSION), 0);
        x.wind(1);
        due.is("higher: 2 and 1", x.count(TENSION), 2);
        x.wind(1);
        due.is("as high: 2 and 2", x.count(TENSION), 0);
        step(x, 4);
        due.is("higher: 3 and 2", x.count(TENSION), 2);
        step(x, 11);
        due.is("lower: 1 and 3", x.count(TENSION), 4);
        x.wind(1);
        due.is("as high, at other places: 1 and 1", x.count(TENSION), 0);

        due.about("\"that of the place of the wrap before\": the same place");
        x = guideAt(10, false);
        step(x, 2);
        due.is("10 by 2 is 10", x.count(GUIDE), 10);
        x.wind(1);
        due.is("height", x.place(10, HEIGHT), 2);
        counts(x, TENSION, 0);
    }

    private static void tensionByTheStepOverATurnWithoutWrap() {
        due.about("\"the place of the wrap before\": behind a turn without one, and a knot");
        ThreadWinder x = strong();
        x.set(TRAVERSE, 11);
        x.wind(4);
        leave(x, 3);
        due.is("no wrap", x.wind(1), 0);
        due.is("tension is that of the last wrap still", x.count(TENSION), 0);
        leave(x, 100);
        x.wind(1);
        due.is("3 and 2", x.count(TENSION), 2);
    }

    private static void tensionByTheWarmth() {
        due.about("\"the warmth of the discs divided by 10 (rounded down)\"");
        int[] warmths = {0, 1, 9, 10, 11, 19, 20, 99, 100, 109, 110, 290, 299, 300};
        for (int warmth : warmths) {
            ThreadWinder x = warm(warmth);
            x.doff();
            x.wind(1);
            due.is("by the warmth " + warmth, x.count(TENSION), warmth / 10);
        }
    }

    private static void tensionByTheDiscs() {
        due.about("\"The tension is 4 for each disc\"");
        for (int discs = 0; discs <= 9; discs++) {
            ThreadWinder x = strong();
            x.set(DISCS, discs);
            x.wind(1);
            due.is("by " + discs + " discs", x.count(TENSION), 4 * discs);
        }
    }

    private static void warmthBecomes(int warmth, int discs, int want) {
        ThreadWinder x = warm(warmth);
        x.set(DISCS, discs);
        x.wind(1);
        due.is(warmth + " with " + discs + " discs", x.count(WARMTH), want);
    }

    private static void warmthIsNotBelow0() {
        due.about("\"falls by 1, and is not below 0 .. behind both\"");
        warmthBecomes(0, 0, 0);
        warmthBecomes(0, 1, 0);
        warmthBecomes(0, 2, 1);
        warmthBecomes(1, 0, 0);
        warmthBecomes(1, 1, 1);
        warmthBecomes(2, 0, 1);
    }

    private static void warmthIsAtMost300() {
        due.about("\"and at most 300 behind both\"");
        warmthBecomes(299, 0, 298);
        warmthBecomes(299, 1, 299);
        warmthBecomes(299, 2, 300);
        warmthBecomes(299, 3, 300);
        warmthBecomes(299, 9, 300);
        warmthBecomes(300, 0, 299);
        warmthBecomes(300, 1, 300);
        warmthBecomes(300, 2, 300);
        warmthBecomes(300, 9, 300);
        warmthBecomes(291, 9, 299);
        warmthBecomes(292, 9, 300);
        warmthBecomes(293, 9, 300);
    }

    private static void breakIsAboveTheStrength() {
        due.about("\"If the tension is greater than the strength, the thread breaks\"");
        for (int discs = 3; discs <= 9; discs++) {
            for (int above = -1; above <= 1; above++) {
                ThreadWinder x = new ThreadWinder();
                x.set(DISCS, discs);
                x.set(STRENGTH, 4 * discs - above);
                x.wind(1);
                due.is("tension " + 4 * discs + ", by " + above, x.count(BROKEN), above > 0 ? 1 : 0);
                counts(x, BREAKS, above > 0 ? 1 : 0);
            }
        }
    }

    /** Ends with a wrap that is 49 lower than the one before, by discs of a warmth. */
    private static ThreadWinder deepStep(int warmTurns) {
        ThreadWinder x = strong();
        x.set(TRAVERSE, 11);
        x.set(DISCS, 9);
        x.wind(warmTurns);
        x.set(DISCS, 1);
        x.wind(98 - warmTurns);
        step(x, 5);
        counts(x, WARMTH, 8 * warmTurns);
        x.set(DISCS, 0);
        x.wind(1);
        return x;
    }

    private static void breakAtTheGreatestStrength() {
        due.about("\"4 the strength of the thread (10 to 99\"");
        ThreadWinder x = deepStep(2);
        counts(x, TENSION, 99);
        counts(x, BROKEN, 0);
        x = deepStep(3);
        counts(x, TENSION, 100);
        counts(x, BROKEN, 1);
    }

    private static void breakIsBehindTheWrap() {
        due.about("\"the thread breaks (behind the wrap that was laid)\"");
        ThreadWinder x = new ThreadWinder();
        x.set(STRENGTH, 10);
        due.is("wind(1)", x.wind(1), 1);
        counts(x, BROKEN, 1);
        counts(x, WRAPS, 1);
        due.is("height", x.place(0, HEIGHT), 1);
        counts(x, LEFT, 4990);
        counts(x, TENSION, 12);
        counts(x, WARMTH, 2);
    }

    private static void guideGoesOnBehindABreak() {
        due.about("\"The guide goes on by the traverse (also if the thread broke)\"");
        ThreadWinder x = new ThreadWinder();
        x.set(STRENGTH, 10);
        x.wind(1);
        counts(x, BROKEN, 1);
        counts(x, GUIDE, 5);
        due.about("\"it goes on by 1 place more\": also if the thread broke");
        x = new ThreadWinder();
        x.set(WOBBLE, 5);
        x.wind(2);
        x.set(STRENGTH, 10);
        x.wind(1);
        counts(x, BROKEN, 1);
        due.is("10 by 5 and 1", x.count(GUIDE), 6);
    }

    private static void wobbleByItsNumber() {
        for (int wobble = 0; wobble <= 5; wobble++) {
            due.about("\"divisible by 8 less the wobble\", wobble " + wobble);
            ThreadWinder x = strong();
            x.set(WOBBLE, wobble);
            x.set(TRAVERSE, 2);
            int way = 0;
            for (int turn = 1; turn <= 24; turn++) {
                x.wind(1);
                way += wobble > 0 && turn % (8 - wobble) == 0 ? 3 : 2;
                int there = way % 22;
                due.is("guide behind " + turn, x.count(GUIDE), there <= 11 ? there : 22 - there);
                due.is("goes back behind " + turn, x.count(GOES_BACK), there >= 11 ? 1 : 0);
            }
        }
    }

    private static void wobbleCountsAllTurns() {
        due.about("\"of all turns that were not idle, whatever packages there were\"");
        ThreadWinder x = strong();
        x.set(TRAVERSE, 1);
        x.wind(1);
        x.doff();
        x.wind(1);
        x.doff();
        x.set(WOBBLE, 5);
        x.wind(1);
        due.is("the third turn, on the third package", x.count(GUIDE), 2);
        x.wind(2);
        due.is("the fifth", x.count(GUIDE), 4);
        x.wind(1);
        due.is("the sixth", x.count(GUIDE), 6);

        due.about("\"of all turns that were not idle\": one that lays no wrap is not idle");
        x = strong();
        x.set(TRAVERSE, 1);
        x.set(WOBBLE, 5);
        x.wind(1);
        leave(x, 4);
        due.is("no wrap", x.wind(1), 0);
        leave(x, 100);
        x.wind(1);
        due.is("the third turn", x.count(GUIDE), 3);
        counts(x, TURNS, 3);

        due.about("\"With a wobble, in each turn\": the guide stays in a turn that lays no wrap");
        x = strong();
        x.set(TRAVERSE, 1);
        x.set(WOBBLE, 5);
        x.wind(2);
        leave(x, 4);
        due.is("no wrap", x.wind(1), 0);
        due.is("the third turn", x.count(GUIDE), 2);
        leave(x, 100);
        x.wind(2);
        due.is("the fifth", x.count(GUIDE), 4);
        x.wind(1);
        due.is("the sixth", x.count(GUIDE), 6);
    }

    private static void wobbleCountsNoIdleTurn() {
        due.about("\"of all turns that were not idle\": idle ones are not counted");
        ThreadWinder x = new ThreadWinder();
        x.set(TRAVERSE, 1);
        x.set(WOBBLE, 5);
        x.wind(1);
        x.set(STRENGTH, 10);
        due.is("one turn, and four idle ones", x.wind(5), 1);
        due.is("idle", x.wind(3), NONE);
        counts(x, TURNS, 2);
        x.knot();
        strengthen(x);
        x.wind(1);
        due.is("the third turn", x.count(GUIDE), 4);
        counts(x, TURNS, 3);
    }

    private static void wobbleAtTheEnds() {
        due.about("\"it goes on by 1 place more\", at the ends");
        ThreadWinder x = strong();
        x.set(WOBBLE, 5);
        x.set(TRAVERSE, 1);
        x.wind(2);
        step(x, 9);
        due.is("from 2 by 9 and 1", x.count(GUIDE), 10);
        counts(x, GOES_BACK, 1);
        x.set(TRAVERSE, 1);
        x.wind(2);
        step(x, 8);
        due.is("from 8 by 8 and 1", x.count(GUIDE), 1);
        counts(x, GOES_BACK, 0);
        step(x, 3);
        step(x, 4);
        step(x, 2);
        due.is("from 8 by 2 and 1", x.count(GUIDE), 11);
        counts(x, GOES_BACK, 1);
        step(x, 1);
        step(x, 4);
        step(x, 5);
        due.is("from 6 back by 5 and 1", x.count(GUIDE), 0);
        counts(x, GOES_BACK, 0);
        step(x, 3);
        step(x, 8);
        counts(x, GUIDE, 11);
        step(x, 11);
        due.is("from 11 by 11 and 1", x.count(GUIDE), 1);
        counts(x, GOES_BACK, 0);
    }

    /** The next turns of a new winder lay at a place and another in turn, until that place is full. */
    private static void beginTower(ThreadWinder x, int place) {
        strengthen(x);
        if (place == 5) {
            step(x, 5);
        }
        if (place == 11) {
            step(x, 11);
            step(x, 10);
            step(x, 11);
            step(x, 1);
        }
        x.set(TRAVERSE, 11);
    }

    private static final int[] TOWERS = {0, 5, 11};
    private static final int[] WRAPS_OF_FULL = {399, 400, 401};

    private static void packageEndsAt200() {
        due.about("\"A place that reached the height 200 ends the package\"");
        for (int i = 0; i < TOWERS.length; i++) {
            ThreadWinder x = new ThreadWinder();
            beginTower(x, TOWERS[i]);
            windTo(x, WRAPS_OF_FULL[i] - 1);
            due.is("199", x.place(TOWERS[i], HEIGHT), 199);
            counts(x, PACKAGE_FULL, 0);
            leave(x, 5000);
            due.is("the last turn", x.wind(2), 1);
            due.is("200", x.place(TOWERS[i], HEIGHT), 200);
            counts(x, PACKAGE_FULL, 1);
            counts(x, LEFT, 5000 - 10 - 199);
            due.is("wind(1)", x.wind(1), NONE);
            x.undo();
            due.is("not full before", x.count(PACKAGE_FULL), 0);
            due.is("the last turn again", x.wind(1), 1);
        }
    }

    private static void fullPackageIsIdle() {
        due.about("\"the package is full, and all turns are idle then\"");
        for (int i = 0; i < TOWERS.length; i++) {
            int place = TOWERS[i];
            int wraps = WRAPS_OF_FULL[i];
            unchanged("wind(500), full at " + place, x -> {
                beginTower(x, place);
                windTo(x, wraps);
                x.cone(9999);
                x.knot();
                x.set(DISCS, 9);
            }, x -> x.wind(500), NONE);
        }
    }

    private static void fullPackageTakesOtherActs() {
        due.about("\"the package is full\": a thread that breaks in the last turn is knotted");
        ThreadWinder x = new ThreadWinder();
        beginTower(x, 0);
        windTo(x, 398);
        leave(x, 9000);
        x.set(DISCS, 9);
        x.set(STRENGTH, 10);
        due.is("the last turn", x.wind(1), 1);
        counts(x, PACKAGE_FULL, 1);
        counts(x, BROKEN, 1);
        due.is("the guide went on", x.count(GUIDE), 11);
        due.is("the discs grew warm", x.count(WARMTH), 8);
        due.is("wind(1)", x.wind(1), NONE);
        int knots = x.place(0, KNOTS);
        due.is("knot()", x.knot(), knots + 1);
        due.is("wind(1), knotted", x.wind(1), NONE);
        due.is("cone(7)", x.cone(7), 9000 - 10 - 199 - 5);
        due.is("doff()", x.doff(), 399);
        counts(x, PACKAGE_FULL, 0);
        x.cone(50);
        due.is("wind(1) on the next", x.wind(1), 1);
    }

    private static int[] repeat(int place, int times, int[] behind) {
        int[] all = Arrays.copyOf(behind, behind.length + times);
        Arrays.fill(all, behind.length, all.length, place);
        return all;
    }

    /** Lays 8 wraps at a place, and fewer by these at the places beside it, where there are such. */
    private static void ribbonCase(int place, int overLower, int overUpper, int want) {
        due.about("place " + place + ", higher by " + overLower + " and " + overUpper);
        int[] laid = {};
        laid = place == 0 ? repeat(place, 8, laid) : repeat(place - 1, 8 - overLower, laid);
        laid = place == 11 ? laid : repeat(place + 1, 8 - overUpper, laid);
        laid = place == 0 ? laid : repeat(place, 8, laid);
        boolean[] free = new boolean[12];
        for (int other = 0; other < 12; other++) {
            free[other] = Math.abs(other - place) > 1;
        }
        ThreadWinder x = strong();
        lay(x, laid, free);
        due.is("height", x.place(place, HEIGHT), 8);
        due.is("ribbon", x.place(place, RIBBON), want);
        int ribbons = 0;
        for (int other = 0; other < 12; other++) {
            ribbons += x.place(other, RIBBON);
        }
        counts(x, RIBBONS, ribbons);
    }

    private static void ribbonIsHigherThanBoth() {
        // "A ribbon is a place whose height is greater than that of both places beside it by 6 or more"
        for (int place = 1; place <= 10; place++) {
            for (int overLower = 5; overLower <= 7; overLower++) {
                for (int overUpper = 5; overUpper <= 7; overUpper++) {
                    ribbonCase(place, overLower, overUpper, overLower >= 6 && overUpper >= 6 ? 1 : 0);
                }
            }
            ribbonCase(place, 0, 7, 0);
            ribbonCase(place, 7, 0, 0);
        }
    }

    private static void ribbonAtTheEnds() {
        // "of the places 0 and 11: of the one beside it"
        for (int over = 0; over <= 7; over++) {
            ribbonCase(0, 0, over, over >= 6 ? 1 : 0);
            ribbonCase(11, over, 0, over >= 6 ? 1 : 0);
        }
        due.about("no ribbon at first");
        ThreadWinder x = new ThreadWinder();
        places(x, RIBBON, 0, 0, 0, 0, 0, 0, 0, 0, 0, 0, 0, 0);
        counts(x, RIBBONS, 0);
    }

    private static void evennessIsGreatestLessLeast() {
        due.about("\"The evenness is the greatest height less the least one\"");
        ThreadWinder x = strong();
        due.is("nothing laid", x.count(EVENNESS), 0);
        x.set(TRAVERSE, 1);
        x.wind(1);
        due.is("1 and 0", x.count(EVENNESS), 1);
        x.wind(10);
        due.is("the last place is bare", x.count(EVENNESS), 1);
        x.wind(1);
        due.is("all are 1", x.count(EVENNESS), 0);
        x.wind(10);
        due.is("the first and the last are 1", x.count(EVENNESS), 1);
        x.wind(1);
        due.is("the last is 1", x.count(EVENNESS), 1);
        step(x, 10);
        due.is("3 at 1, and 1 at 11", x.count(EVENNESS), 2);
        step(x, 1);
        due.is("3 at 1, and 2 at all others", x.count(EVENNESS), 1);
        x = strong();
        x.set(TRAVERSE, 11);
        windTo(x, 399);
        due.is("full, and bare", x.count(EVENNESS), 200);
    }

    private static void knotUsesUpItsLength() {
        due.about("\"it uses up the knot length of the cone (NOT_POSSIBLE if the cone has less)\"");
        for (int length = 5; length <= 50; length++) {
            ThreadWinder x = new ThreadWinder();
            x.set(KNOT_LENGTH, length);
            x.wind(1);
            x.cone(length - 1);
            due.is("less than " + length, x.knot(), NOT_POSSIBLE);
            counts(x, LEFT, length - 1);
            counts(x, BROKEN, 1);
            due.is("no knot", x.place(0, KNOTS), 0);
            x.cone(length);
            due.is("just " + length, x.knot(), 1);
            counts(x, LEFT, 0);
            counts(x, BROKEN, 0);
            x.cone(length + 1);
            due.is("more than " + length, x.knot(), 2);
            counts(x, LEFT, 1);
        }
    }

    private static void knotIsAtTheLastWrap() {
        due.about("\"the place of the last wrap gets a knot\"");
        for (int place = 0; place <= 11; place++) {
            ThreadWinder x = guideAt(place, false);
            x.wind(1);
            x.cone(500);
            due.is("knot()", x.knot(), 1);
            for (int other = 0; other <= 11; other++) {
                due.is("knots of " + other, x.place(other, KNOTS), other == place ? 1 : 0);
            }
        }
        due.about("\"the place of the last wrap gets a knot\": behind a turn without a wrap");
        ThreadWinder x = guideAt(4, false);
        x.wind(1);
        leave(x, 3);
        x.wind(1);
        leave(x, 30);
        due.is("knots of 4", x.place(4, KNOTS), 2);
        counts(x, ALL_KNOTS, 2);
    }

    private static void badIsMoreThanTwoKnots() {
        due.about("\"A place that has more than 2 knots is bad\"");
        for (int place = 0; place <= 11; place++) {
            ThreadWinder x = guideAt(place, false);
            x.wind(1);
            for (int knots = 0; knots <= 4; knots++) {
                due.is("knots of " + place, x.place(place, KNOTS), knots);
                due.is("bad with " + knots, x.place(place, BAD), knots > 2 ? 1 : 0);
                due.is("wrong() with " + knots, x.wrong(), knots > 2 ? 3 : 0);
                due.is("another is not bad", x.place(place == 0 ? 11 : 0, BAD), 0);
                x.cone(900);
                x.knot();
            }
        }
    }
}
