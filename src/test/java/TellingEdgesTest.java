import java.util.Arrays;

/** The edges of what is told: promises 14 to 20, sentence by sentence. */
public final class TellingEdgesTest extends Bench {
    public static void main(String[] args) {
        placeKnowsTwelve();
        placeKnowsFourThings();
        wrongOfNothing();
        wrongTellsTheFirst();
        wrongByAnEmptyCone();
        wrongByABadPlace();
        wrongByARibbon();
        wrongByTheEvenness();
        breaksInTheNextTurn();
        breaksInCountsTurns();
        breaksInOfABrokenThread();
        breaksInOfAnEmptyCone();
        breaksInNoneByTheEndOfTheThread();
        breaksInNoneByAFullPackage();
        breaksInChangesNothing();
        ifTraverseKeepsRanges();
        ifTraverseFromAnEmptyPackage();
        ifTraverseNeverBreaksOrEnds();
        ifTraverseWobbles();
        ifTraverseCountsTurnsFrom1();
        ifTraverseIsFullAt200();
        ifTraverseRibbons();
        ifTraverseBarePlaces();
        ifTraverseIsAsWound();
        ifTraverseIsAsWalked();
        bestTraverseKeepsItsRange();
        bestTraverseIsTheLowest();
        bestTraverseByTheWobble();
        periodKeepsItsRange();
        periodOfEach();
        periodIsAsWound();
        countKnowsItsNumbers();
        countOfTheTension();
        countOfTurnsAndBreaks();
        countOfFullAndEmpty();
        due.end();
    }

    private static void placeKnowsTwelve() {
        due.about("promise 14: \"place: 0 to 11\", \"UNKNOWN\"");
        int[] bad = {-1, 12, 13, MIN, MAX};
        for (int place : bad) {
            for (int what = -1; what <= 4; what++) {
                due.is("place(" + place + ", " + what + ")", new ThreadWinder().place(place, what), UNKNOWN);
            }
        }
        ThreadWinder x = guideAt(11, true);
        x.wind(1);
        due.is("place(11, 0)", x.place(11, HEIGHT), 1);
        due.is("place(0, 0)", x.place(0, HEIGHT), 1);
    }

    private static void placeKnowsFourThings() {
        due.about("promise 14: \"what: 0 .. 1 .. 2 .. 3\", \"BAD_VALUE\"");
        int[] bad = {-1, 4, 5, MIN, MAX};
        for (int what : bad) {
            due.is("place(0, " + what + ")", new ThreadWinder().place(0, what), BAD_VALUE);
            due.is("place(11, " + what + ")", new ThreadWinder().place(11, what), BAD_VALUE);
        }
        ThreadWinder x = strong();
        x.set(TRAVERSE, 11);
        x.wind(13);
        int[] want = {7, 0, 1, 0};
        for (int knots = 0; knots <= 3; knots++) {
            for (int what = HEIGHT; what <= BAD; what++) {
                due.is("place(0, " + what + ")", x.place(0, what), what == KNOTS ? knots
                    : what == BAD && knots == 3 ? 1 : want[what]);
            }
            leave(x, 500);
        }
    }

    private static void wrongOfNothing() {
        due.about("promise 15: \"0 nothing\"");
        ThreadWinder x = new ThreadWinder();
        due.is("at first", x.wrong(), 0);
        x.wind(22);
        due.is("a round", x.wrong(), 0);
    }

    private static void wrongTellsTheFirst() {
        due.about("promise 15: \"the first of these that is so\"");
        ThreadWinder x = strong();
        x.set(TRAVERSE, 11);
        x.wind(21);
        counts(x, EVENNESS, 11);
        counts(x, RIBBONS, 2);
        due.is("a ribbon, uneven", x.wrong(), 4);
        leave(x, 500);
        leave(x, 500);
        due.is("two knots are not bad", x.wrong(), 4);
        leave(x, 500);
        due.is("a bad place, a ribbon, uneven", x.wrong(), 3);
        leave(x, 0);
        due.is("an empty cone, a bad place, a ribbon, uneven", x.wrong(), 2);
        x.undo();
        counts(x, BROKEN, 1);
        due.is("a broken thread, a bad place, a ribbon, uneven", x.wrong(), 1);
        leave(x, 20);
        x.set(DISCS, 9);
        x.set(STRENGTH, 10);
        due.is("the last of the thread breaks", x.wind(1), 1);
        counts(x, CONE_EMPTY, 1);
        due.is("all five", x.wrong(), 1);
        x.doff();
        due.is("an empty cone, and no package", x.wrong(), 2);
        x.cone(1);
        due.is("nothing", x.wrong(), 0);
    }

    private static void wrongByAnEmptyCone() {
        due.about("promise 15: \"2 the cone is empty\"");
        ThreadWinder x = new ThreadWinder();
        x.cone(11);
        x.wind(1);
        due.is("1 is left", x.wrong(), 0);
        x.wind(1);
        due.is("none is left", x.wrong(), 2);
    }

    private static void wrongByABadPlace() {
        due.about("promise 15: \"3 a place is bad\"");
        ThreadWinder x = strong();
        x.wind(1);
        leave(x, 50);
        leave(x, 50);
        x.wind(1);
        leave(x, 50);
        leave(x, 50);
        due.is("four knots, two at each of two places", x.wrong(), 0);
        leave(x, 50);
        due.is("three at one", x.wrong(), 3);
        due.is("bad", x.place(5, BAD), 1);
        due.is("not bad", x.place(0, BAD), 0);
    }

    private static void wrongByARibbon() {
        due.about("promise 15: \"4 there is a ribbon\"");
        ThreadWinder x = strong();
        x.set(TRAVERSE, 11);
        x.wind(10);
        due.is("5 higher", x.wrong(), 0);
        x.wind(1);
        due.is("6 higher at 0", x.wrong(), 4);
        x = towerAt11(5);
        due.is("6 beside 1", x.place(11, RIBBON), 0);
        due.is("5 higher at 11", x.wrong(), 0);
        x = towerAt11(6);
        due.is("7 beside 1", x.place(11, RIBBON), 1);
        due.is("none at 0", x.place(0, RIBBON), 0);
        due.is("6 higher at 11", x.wrong(), 4);
    }

    /** So many wraps at 0, one more at 11, and one at 1 and at 10. */
    private static ThreadWinder towerAt11(int rounds) {
        ThreadWinder x = strong();
        step(x, 11);
        step(x, 10);
        step(x, 11);
        step(x, 1);
        x.set(TRAVERSE, 11);
        x.wind(2 * rounds - 1);
        due.is("height of 11", x.place(11, HEIGHT), rounds + 1);
        due.is("height of 0", x.place(0, HEIGHT), rounds);
        return x;
    }

    private static void wrongByTheEvenness() {
        due.about("promise 15: \"5 the evenness is 10 or more\"");
        // The places 5 and 6 grow side by side: neither is a ribbon.
        ThreadWinder x = strong();
        step(x, 5);
        x.set(TRAVERSE, 11);
        x.wind(18);
        counts(x, RIBBONS, 0);
        counts(x, EVENNESS, 9);
        due.is("9", x.wrong(), 0);
        x.wind(1);
        counts(x, RIBBONS, 0);
        counts(x, EVENNESS, 10);
        due.is("10", x.wrong(), 5);
        x.wind(2);
        counts(x, EVENNESS, 11);
        due.is("11", x.wrong(), 5);
    }

    private static void breaksInTheNextTurn() {
        due.about("promise 16: \"in how many turns the thread would break\", the next one");
        ThreadWinder x = new ThreadWinder();
        x.set(STRENGTH, 11);
        due.is("tension 12 over 11", x.breaksIn(), 1);
        x.set(STRENGTH, 12);
        due.is("12 is not greater than 12", x.breaksIn(), 6);
        x.set(STRENGTH, 11);
        x.cone(10);
        due.is("with the last of the thread", x.breaksIn(), 1);
        due.is("so it does", x.wind(1), 1);
        counts(x, BROKEN, 1);
    }

    private static void breaksInCountsTurns() {
        due.about("promise 16: \"Returns the number of turns\"");
        int[] discs = {1, 3, 6, 9};
        for (int many : discs) {
            for (int strength = 10; strength <= 90; strength += 8) {
                ThreadWinder x = new ThreadWinder();
                x.set(DISCS, many);
                x.set(STRENGTH, strength);
                int told = x.breaksIn();
                int laid = x.wind(500);
                due.is("discs " + many + ", strength " + strength, told,
                    x.count(BROKEN) == 1 ? laid : NONE);
            }
        }
    }

    private static void breaksInOfABrokenThread() {
        due.about("promise 16: \"NOT_POSSIBLE if it is broken\"");
        ThreadWinder x = new ThreadWinder();
        x.set(STRENGTH, 10);
        x.wind(1);
        due.is("by tension", x.breaksIn(), NOT_POSSIBLE);
        x.knot();
        due.is("knotted", x.breaksIn(), 1);
        x.cone(500);
        due.is("by a new cone", x.breaksIn(), NOT_POSSIBLE);
        x.doff();
        due.is("taken off", x.breaksIn(), 1);
        x = strong();
        x.set(TRAVERSE, 11);
        windTo(x, 399);
        leave(x, 700);
        x.cone(500);
        due.is("on a full package", x.breaksIn(), NOT_POSSIBLE);
    }

    private static void breaksInOfAnEmptyCone() {
        due.about("promise 16: \"or the cone is empty\"");
        ThreadWinder x = new ThreadWinder();
        x.cone(10);
        due.is("a wrap is left", x.breaksIn(), NONE);
        x.wind(1);
        due.is("nothing is left", x.breaksIn(), NOT_POSSIBLE);
        x.doff();
        due.is("taken off", x.breaksIn(), NOT_POSSIBLE);
        x.cone(1);
        due.is("1 is left", x.breaksIn(), NONE);
        x.set(STRENGTH, 10);
        due.is("1 is left, though the next wrap would break", x.breaksIn(), NONE);
        x.cone(10);
        x.wind(1);
        due.is("broken, and empty", x.breaksIn(), NOT_POSSIBLE);
    }

    private static void breaksInNoneByTheEndOfTheThread() {
        due.about("promise 16: \"NONE if it does not break by then\": the thread ends");
        ThreadWinder x = new ThreadWinder();
        x.set(STRENGTH, 12);
        // The first six wraps lie on six places, 10 each; the sixth one breaks.
        x.cone(60);
        due.is("just enough", x.breaksIn(), 6);
        x.cone(59);
        due.is("1 too little", x.breaksIn(), NONE);
        x.cone(9999);
        x.set(DISCS, 0);
        x.set(STRENGTH, 99);
        due.is("the longest thread", x.breaksIn(), NONE);
    }

    private static void breaksInNoneByAFullPackage() {
        due.about("promise 16: \"NONE if it does not break by then\": the package is full");
        ThreadWinder x = strong();
        x.set(TRAVERSE, 11);
        windTo(x, 398);
        leave(x, 9000);
        due.is("one turn before", x.breaksIn(), NONE);
        x.set(DISCS, 9);
        x.set(STRENGTH, 10);
        due.is("the last turn breaks", x.breaksIn(), 1);
        x.undo();
        x.undo();
        x.wind(1);
        counts(x, PACKAGE_FULL, 1);
        x.set(DISCS, 9);
        x.set(STRENGTH, 10);
        due.is("full: all turns are idle", x.breaksIn(), NONE);
    }

    private static void breaksInChangesNothing() {
        due.about("promise 16: nothing is wound");
        unchanged("breaksIn()", x -> {
            x.wind(3);
            x.set(STRENGTH, 12);
            x.keep();
        }, x -> x.breaksIn(), 3);
        unchanged("breaksIn(), NONE", Bench::busy, x -> x.breaksIn(), NONE);
        ThreadWinder x = new ThreadWinder();
        x.set(STRENGTH, 12);
        due.is("once", x.breaksIn(), 6);
        due.is("twice", x.breaksIn(), 6);
    }

    private static void ifTraverseKeepsRanges() {
        due.about("promise 17: \"BAD_VALUE\" but for 1 to 11, 1 to 500, 0 to 2");
        int[] traverses = {0, -1, 12, MIN, MAX};
        for (int traverse : traverses) {
            unchanged("ifTraverse(" + traverse + ", 1, 0)", Bench::busy, x -> x.ifTraverse(traverse, 1, 0),
                BAD_VALUE);
        }
        int[] turns = {0, -1, 501, MIN, MAX};
        for (int many : turns) {
            unchanged("ifTraverse(1, " + many + ", 0)", Bench::busy, x -> x.ifTraverse(1, many, 0), BAD_VALUE);
        }
        int[] whats = {-1, 3, MIN, MAX};
        for (int what : whats) {
            unchanged("ifTraverse(1, 1, " + what + ")", Bench::busy, x -> x.ifTraverse(1, 1, what), BAD_VALUE);
        }
        ThreadWinder x = new ThreadWinder();
        due.is("ifTraverse(1, 1, 0)", x.ifTraverse(1, 1, 0), 1);
        due.is("ifTraverse(11, 1, 1)", x.ifTraverse(11, 1, 1), 0);
        due.is("ifTraverse(11, 1, 2)", x.ifTraverse(11, 1, 2), 11);
        // 22 rounds of 22, and 15 or 16 turns more: 46 at 10, and 23 at 0.
        due.is("ifTraverse(1, 499, 0)", x.ifTraverse(1, 499, 0), 23);
        due.is("ifTraverse(1, 500, 0)", x.ifTraverse(1, 500, 0), 23);
        due.is("ifTraverse(1, 500, 2)", x.ifTraverse(1, 500, 2), 0);
        due.is("ifTraverse(11, 500, 2)", x.ifTraverse(11, 500, 2), 10);
    }

    private static void ifTraverseFromAnEmptyPackage() {
        due.about("promise 17: \"from an empty package, with the guide at the place 0\"");
        ThreadWinder x = strong();
        x.wind(9);
        due.is("one turn", x.ifTraverse(3, 1, 0), 1);
        due.is("one turn", x.ifTraverse(3, 1, 2), 11);
        due.is("0, 3, 6, 9", x.ifTraverse(3, 4, 2), 8);
        due.is("0, 11, 0", x.ifTraverse(11, 3, 0), 2);
        unchanged("ifTraverse(11, 60, 1)", Bench::busy, y -> y.ifTraverse(11, 60, 1), 2);
    }

    private static void ifTraverseNeverBreaksOrEnds() {
        due.about("promise 17: \"with thread that never breaks or ends\"");
        ThreadWinder x = new ThreadWinder();
        x.set(DISCS, 9);
        x.set(STRENGTH, 10);
        x.cone(10);
        x.wind(1);
        counts(x, BROKEN, 1);
        counts(x, CONE_EMPTY, 1);
        due.is("broken, and empty", x.ifTraverse(11, 300, 0), 150);
        due.is("ribbons", x.ifTraverse(11, 300, 1), 2);
        due.is("all 500 turns", x.ifTraverse(1, 500, 0), 23);
    }

    private static void ifTraverseWobbles() {
        due.about("promise 17: \"the wobble as it is\"");
        for (int wobble = 0; wobble <= 5; wobble++) {
            ThreadWinder x = new ThreadWinder();
            x.set(WOBBLE, wobble);
            int every = 8 - wobble;
            // By 11 there are two places, 0 and 11, until the wobble makes it a third one.
            due.is("up to the turn " + every, x.ifTraverse(11, every, 2), 10);
            due.is("behind it, by " + wobble, x.ifTraverse(11, every + 1, 2), wobble > 0 ? 9 : 10);
        }
    }

    private static void ifTraverseCountsTurnsFrom1() {
        due.about("promise 17: \"its turns counted from 1\"");
        for (int turns = 0; turns <= 6; turns++) {
            ThreadWinder x = new ThreadWinder();
            x.set(WOBBLE, 5);
            for (int turn = 1; turn <= turns; turn++) {
                x.wind(1);
            }
            due.is("3 turns, behind " + turns, x.ifTraverse(11, 3, 2), 10);
            due.is("4 turns, behind " + turns, x.ifTraverse(11, 4, 2), 9);
        }
    }

    private static void ifTraverseIsFullAt200() {
        due.about("promise 17: \"a package that is full takes no more\"");
        ThreadWinder x = new ThreadWinder();
        due.is("397 turns", x.ifTraverse(11, 397, 0), 199);
        due.is("398 turns", x.ifTraverse(11, 398, 0), 199);
        due.is("399 turns", x.ifTraverse(11, 399, 0), 200);
        due.is("400 turns", x.ifTraverse(11, 400, 0), 200);
        due.is("401 turns", x.ifTraverse(11, 401, 0), 200);
        due.is("500 turns", x.ifTraverse(11, 500, 0), 200);
        due.is("ribbons", x.ifTraverse(11, 500, 1), 2);
        due.is("bare places", x.ifTraverse(11, 500, 2), 10);
    }

    private static void ifTraverseRibbons() {
        due.about("promise 17: \"1 for the ribbons\"");
        ThreadWinder x = new ThreadWinder();
        due.is("5 and 5", x.ifTraverse(11, 10, 1), 0);
        due.is("6 and 5", x.ifTraverse(11, 11, 1), 1);
        due.is("6 and 6", x.ifTraverse(11, 12, 1), 2);
        // By 2 the even places get two wraps in a round of 11 turns, but 0, which gets one.
        due.is("three rounds", x.ifTraverse(2, 33, 1), 5);
        due.is("a turn before, 2 is not yet 6", x.ifTraverse(2, 32, 1), 4);
        due.is("six rounds", x.ifTraverse(2, 66, 1), 6);
    }

    private static void ifTraverseBarePlaces() {
        due.about("promise 17: \"2 for places without a wrap\"");
        ThreadWinder x = new ThreadWinder();
        for (int turns = 1; turns <= 14; turns++) {
            due.is(turns + " turns by 1", x.ifTraverse(1, turns, 2), Math.max(0, 12 - turns));
        }
        due.is("by 2", x.ifTraverse(2, 500, 2), 6);
        due.is("by 11", x.ifTraverse(11, 2, 2), 10);
    }

    private static void ifTraverseIsAsWound() {
        due.about("promise 17: as winding a new package would bring");
        for (int traverse = 1; traverse <= 11; traverse++) {
            for (int wobble = 0; wobble <= 5; wobble += 5) {
                ThreadWinder x = strong();
                x.cone(9999);
                x.set(TRAVERSE, traverse);
                x.set(WOBBLE, wobble);
                due.is("all are laid", x.wind(120), 120);
                due.is("evenness by " + traverse, x.ifTraverse(traverse, 120, 0), x.count(EVENNESS));
                due.is("ribbons by " + traverse, x.ifTraverse(traverse, 120, 1), x.count(RIBBONS));
                int bare = 0;
                for (int place = 0; place < 12; place++) {
                    bare += x.place(place, HEIGHT) == 0 ? 1 : 0;
                }
                due.is("bare places by " + traverse, x.ifTraverse(traverse, 120, 2), bare);
            }
        }
    }

    /** The heights that a guide lays which walks place by place, until one is 200. */
    private static int[] walked(int traverse, int wobble, int turns) {
        int[] heights = new int[12];
        int at = 0;
        int way = 1;
        boolean full = false;
        for (int turn = 1; turn <= turns && !full; turn++) {
            heights[at]++;
            full = heights[at] == 200;
            int places = wobble > 0 && turn % (8 - wobble) == 0 ? traverse + 1 : traverse;
            for (int i = 0; i < places; i++) {
                at += way;
                way = at == 11 ? -1 : at == 0 ? 1 : way;
            }
        }
        return heights;
    }

    private static int evennessOf(int[] heights) {
        int[] sorted = heights.clone();
        Arrays.sort(sorted);
        return sorted[11] - sorted[0];
    }

    private static void ifTraverseIsAsWalked() {
        due.about("promise 17: as a guide that walks place by place");
        int[] many = {1, 2, 3, 7, 8, 11, 12, 13, 22, 23, 100, 397, 398, 399, 400, 401, 499, 500};
        for (int wobble = 0; wobble <= 5; wobble++) {
            for (int turns : many) {
                ThreadWinder x = new ThreadWinder();
                x.set(WOBBLE, wobble);
                for (int traverse = 1; traverse <= 11; traverse++) {
                    int[] heights = walked(traverse, wobble, turns);
                    int bare = 0;
                    for (int height : heights) {
                        bare += height == 0 ? 1 : 0;
                    }
                    String call = traverse + ", " + turns + ", by the wobble " + wobble;
                    due.is("evenness, " + call, x.ifTraverse(traverse, turns, 0), evennessOf(heights));
                    due.is("bare places, " + call, x.ifTraverse(traverse, turns, 2), bare);
                }
            }
        }
        // Where the last of 500 turns is seen.
        ThreadWinder x = new ThreadWinder();
        x.set(WOBBLE, 1);
        due.is("499 turns", x.ifTraverse(5, 499, 0), 33);
        due.is("500 turns", x.ifTraverse(5, 500, 0), 34);
    }

    private static void bestTraverseKeepsItsRange() {
        due.about("promise 18: \"turns: 1 to 500\"");
        int[] bad = {0, -1, 501, MIN, MAX};
        for (int turns : bad) {
            unchanged("bestTraverse(" + turns + ")", Bench::busy, x -> x.bestTraverse(turns), BAD_VALUE);
        }
        unchanged("bestTraverse(1)", Bench::busy, x -> x.bestTraverse(1), 1);
        unchanged("bestTraverse(500)", Bench::busy, x -> x.bestTraverse(500), lowestWalked(0, 500));
    }

    private static int lowestWalked(int wobble, int turns) {
        int best = 11;
        for (int traverse = 10; traverse >= 1; traverse--) {
            int evenness = evennessOf(walked(traverse, wobble, turns));
            best = evenness <= evennessOf(walked(best, wobble, turns)) ? traverse : best;
        }
        return best;
    }

    private static void bestTraverseIsTheLowest() {
        due.about("promise 18: \"of several the lowest one\"");
        ThreadWinder x = new ThreadWinder();
        due.is("all are 1 behind a turn", x.bestTraverse(1), 1);
        due.is("0 by 1 alone, behind 12", x.bestTraverse(12), 1);
        // Behind two turns by 11 as by any other, two places have a wrap.
        due.is("all are 1 behind two", x.bestTraverse(2), 1);
        for (int turns = 3; turns <= 400; turns++) {
            due.is(turns + " turns", x.bestTraverse(turns), lowestWalked(0, turns));
        }
    }

    private static void bestTraverseByTheWobble() {
        due.about("promise 18: \"as for ifTraverse()\", the wobble too");
        int[] at500 = {1, 2, 9, 4, 11, 2};
        for (int wobble = 0; wobble <= 5; wobble++) {
            ThreadWinder x = new ThreadWinder();
            x.set(WOBBLE, wobble);
            for (int turns = 1; turns <= 496; turns += 5) {
                due.is("wobble " + wobble + ", " + turns + " turns", x.bestTraverse(turns),
                    lowestWalked(wobble, turns));
            }
            due.is("wobble " + wobble + ", 500 turns", x.bestTraverse(500), at500[wobble]);
        }
        ThreadWinder x = new ThreadWinder();
        x.set(WOBBLE, 5);
        due.is("17 turns", x.bestTraverse(17), 10);
        due.is("18 turns", x.bestTraverse(18), 2);
    }

    private static void periodKeepsItsRange() {
        due.about("promise 19: \"traverse: 1 to 11\"");
        int[] bad = {0, -1, 12, 22, MIN, MAX};
        for (int traverse : bad) {
            unchanged("period(" + traverse + ")", Bench::busy, x -> x.period(traverse), BAD_VALUE);
        }
        unchanged("period(1)", Bench::busy, x -> x.period(1), 22);
        unchanged("period(11)", Bench::busy, x -> x.period(11), 2);
    }

    private static void periodOfEach() {
        due.about("promise 19: \"at the same place, going the same way\"");
        int[] want = {22, 11, 22, 11, 22, 11, 22, 11, 22, 11, 2};
        for (int traverse = 1; traverse <= 11; traverse++) {
            due.is("period(" + traverse + ")", new ThreadWinder().period(traverse), want[traverse - 1]);
        }
    }

    private static void periodIsAsWound() {
        due.about("promise 19: \"without a wobble; counted without winding\"");
        for (int traverse = 1; traverse <= 11; traverse++) {
            ThreadWinder x = strong();
            x.set(TRAVERSE, traverse);
            int turns = 0;
            do {
                x.wind(1);
                turns++;
            } while (turns < 100 && (x.count(GUIDE) != 0 || x.count(GOES_BACK) != 0));
            due.is("period(" + traverse + ")", x.period(traverse), turns);
            x.set(WOBBLE, 5);
            x.wind(2);
            due.is("with a wobble, elsewhere", x.period(traverse), turns);
            x.cone(1);
            due.is("with a broken thread", x.period(traverse), turns);
        }
    }

    private static void countKnowsItsNumbers() {
        due.about("promise 20: \"BAD_VALUE\" but for 0 to 16 and 20 to 24");
        int[] bad = {-1, -2, 17, 18, 19, 25, 26, 100, MIN, MAX};
        for (int what : bad) {
            unchanged("count(" + what + ")", Bench::busy, x -> x.count(what), BAD_VALUE);
        }
        ThreadWinder x = new ThreadWinder();
        for (int what = 0; what <= 24; what++) {
            boolean known = what <= 16 || what >= 20;
            due.is("count(" + what + ")", x.count(what) < 0 ? 1 : 0, known ? 0 : 1);
        }
    }

    private static void countOfTheTension() {
        due.about("promise 20: \"the tension of the last wrap (0 without one on the package)\"");
        ThreadWinder x = new ThreadWinder();
        counts(x, TENSION, 0);
        x.wind(1);
        counts(x, TENSION, 12);
        x.set(DISCS, 9);
        due.is("of the last wrap, not of the next", x.count(TENSION), 12);
        x.doff();
        counts(x, TENSION, 0);
        x.undo();
        counts(x, TENSION, 12);
        x.undo();
        x.undo();
        counts(x, TENSION, 0);
        x.cone(9);
        x.wind(1);
        due.is("a turn without a wrap", x.count(TENSION), 0);
    }

    private static void countOfTurnsAndBreaks() {
        due.about("promise 20: \"turns that were not idle so far\", \"breaks so far\", \"packages\"");
        ThreadWinder x = new ThreadWinder();
        x.set(STRENGTH, 10);
        x.wind(5);
        x.wind(5);
        counts(x, TURNS, 1);
        counts(x, BREAKS, 1);
        x.knot();
        x.wind(5);
        counts(x, TURNS, 2);
        counts(x, BREAKS, 2);
        x.doff();
        x.wind(5);
        counts(x, TURNS, 3);
        counts(x, BREAKS, 3);
        counts(x, PACKAGES, 1);
        x.cone(9);
        due.is("a new cone leaves the thread broken, it does not break", x.count(BREAKS), 3);
        x.doff();
        counts(x, PACKAGES, 2);
        due.is("no wrap", x.wind(5), 0);
        counts(x, TURNS, 4);
        counts(x, BREAKS, 3);
        due.is("nothing on", x.doff(), NONE);
        counts(x, PACKAGES, 2);
    }

    private static void countOfFullAndEmpty() {
        due.about("promise 20: \"whether the cone is empty\", \"whether the package is full\"");
        ThreadWinder x = strong();
        x.set(TRAVERSE, 11);
        counts(x, CONE_EMPTY, 0);
        counts(x, PACKAGE_FULL, 0);
        windTo(x, 398);
        leave(x, 10 + 199);
        counts(x, CONE_EMPTY, 0);
        counts(x, PACKAGE_FULL, 0);
        due.is("the last of both", x.wind(9), 1);
        counts(x, CONE_EMPTY, 1);
        counts(x, PACKAGE_FULL, 1);
        due.is("wrong()", x.wrong(), 2);
        due.is("breaksIn()", x.breaksIn(), NOT_POSSIBLE);
        due.is("doff()", x.doff(), 399);
        counts(x, CONE_EMPTY, 1);
        counts(x, PACKAGE_FULL, 0);
    }
}
