/** Each promise of the document, with answers that were worked out by hand. */
public final class PromisesTest {
    private static final int UNKNOWN = ThreadWinder.UNKNOWN;
    private static final int BAD_VALUE = ThreadWinder.BAD_VALUE;
    private static final int FULL = ThreadWinder.FULL;
    private static final int NOT_POSSIBLE = ThreadWinder.NOT_POSSIBLE;
    private static final int NONE = ThreadWinder.NONE;

    private static final int TRAVERSE = 0;
    private static final int DISCS = 1;
    private static final int WOBBLE = 2;
    private static final int KNOT_LENGTH = 3;
    private static final int STRENGTH = 4;

    private static final Due due = new Due();

    public static void main(String[] args) {
        newObject();
        setRanges();
        setAnswers();
        windFirstTurns();
        windAtTheEnds();
        windArguments();
        windOutOfThread();
        windTension();
        windWarmth();
        windBreaks();
        windWobble();
        windFullPackage();
        knotPlaces();
        knotErrors();
        coneChanges();
        doffBeginsAnew();
        typeAndClear();
        performFaults();
        performCompleteTexts();
        performActs();
        performStops();
        undoSteps();
        undoRestoresAll();
        triedIsGone();
        keepAndRestore();
        placeTells();
        placeRibbons();
        wrongInOrder();
        breaksInTurns();
        ifTraverseTells();
        bestTraverseFinds();
        periods();
        countTells();
        due.end();
    }

    private static void newObject() {
        due.about("promise 1");
        ThreadWinder x = new ThreadWinder();
        int[] want = {0, 5000, 0, 0, 0, 0, 0, 0, 0, 0, 0, 0, 0, 0, 0, 0, 0};
        for (int what = 0; what < want.length; what++) {
            due.is("count(" + what + ")", x.count(what), want[what]);
        }
        int[] numbers = {5, 3, 0, 10, 60};
        for (int which = 0; which < numbers.length; which++) {
            due.is("count(2" + which + ")", x.count(20 + which), numbers[which]);
        }
        due.is("wrong()", x.wrong(), 0);
        due.is("stopped()", x.stopped(), NONE);
        due.is("undo()", x.undo(), NONE);
        due.is("restore()", x.restore(), NONE);
        for (int place = 0; place < 12; place++) {
            due.is("height", x.place(place, 0), 0);
            due.is("knots", x.place(place, 1), 0);
        }
    }

    private static void setRanges() {
        due.about("promise 2, ranges");
        int[] lowest = {1, 0, 0, 5, 10};
        int[] highest = {11, 9, 5, 50, 99};
        int[] first = {5, 3, 0, 10, 60};
        for (int which = 0; which < 5; which++) {
            ThreadWinder x = new ThreadWinder();
            due.is("below", x.set(which, lowest[which] - 1), BAD_VALUE);
            due.is("above", x.set(which, highest[which] + 1), BAD_VALUE);
            due.is("far below", x.set(which, Integer.MIN_VALUE), BAD_VALUE);
            due.is("far above", x.set(which, Integer.MAX_VALUE), BAD_VALUE);
            due.is("left as it was", x.count(20 + which), first[which]);
            due.is("highest", x.set(which, highest[which]), first[which]);
            due.is("lowest", x.set(which, lowest[which]), highest[which]);
            due.is("told", x.count(20 + which), lowest[which]);
        }
    }

    private static void setAnswers() {
        due.about("promise 2, answers");
        ThreadWinder x = new ThreadWinder();
        due.is("set(5, 1)", x.set(5, 1), UNKNOWN);
        due.is("set(-1, 1)", x.set(-1, 1), UNKNOWN);
        due.is("set(5, 999): UNKNOWN is looked at first", x.set(5, 999), UNKNOWN);
        due.is("set(MAX, 0)", x.set(Integer.MAX_VALUE, 0), UNKNOWN);
        due.is("set(MIN, 0)", x.set(Integer.MIN_VALUE, 0), UNKNOWN);
        due.is("set(0, 5) as it is", x.set(TRAVERSE, 5), NONE);
        due.is("no act so far", x.count(15), 0);
        due.is("set(2, 4)", x.set(WOBBLE, 4), 0);
        due.is("an act", x.count(15), 1);
        due.is("set(2, 4) again", x.set(WOBBLE, 4), NONE);
        due.is("one act still", x.count(15), 1);
    }

    private static void windFirstTurns() {
        due.about("promise 3, first turns");
        ThreadWinder x = new ThreadWinder();
        due.is("wind(1)", x.wind(1), 1);
        due.is("guide", x.count(2), 5);
        due.is("forth", x.count(3), 0);
        due.is("cone", x.count(1), 4990);
        due.is("warmth", x.count(4), 2);
        due.is("tension without a wrap before", x.count(5), 12);
        due.is("height of 0", x.place(0, 0), 1);
        due.is("one act", x.count(15), 1);
        due.is("wind(2)", x.wind(2), 2);
        due.is("guide", x.count(2), 7);
        due.is("back", x.count(3), 1);
        due.is("turns", x.count(12), 3);
        due.is("wraps", x.count(0), 3);
        due.is("two acts", x.count(15), 2);
    }

    private static void windAtTheEnds() {
        due.about("promise 3, ends");
        ThreadWinder x = new ThreadWinder();
        x.set(TRAVERSE, 10);
        x.wind(1);
        due.is("at 10", x.count(2), 10);
        due.is("forth at 10", x.count(3), 0);
        x.set(TRAVERSE, 3);
        x.wind(1);
        due.is("from 10 by 3", x.count(2), 9);
        due.is("back", x.count(3), 1);
        x.set(TRAVERSE, 9);
        x.wind(1);
        due.is("at 0", x.count(2), 0);
        due.is("forth at 0", x.count(3), 0);
        x.set(TRAVERSE, 11);
        x.wind(1);
        due.is("at 11", x.count(2), 11);
        due.is("back at 11", x.count(3), 1);
        x.set(TRAVERSE, 8);
        x.wind(2);
        due.is("from 3 by 8 back", x.count(2), 5);
        due.is("forth", x.count(3), 0);
    }

    private static void windArguments() {
        due.about("promise 3, arguments");
        ThreadWinder x = new ThreadWinder();
        due.is("wind(0)", x.wind(0), BAD_VALUE);
        due.is("wind(-1)", x.wind(-1), BAD_VALUE);
        due.is("wind(501)", x.wind(501), BAD_VALUE);
        due.is("wind(MAX)", x.wind(Integer.MAX_VALUE), BAD_VALUE);
        due.is("no act", x.count(15), 0);
        x.cone(9999);
        x.set(DISCS, 0);
        x.set(STRENGTH, 99);
        // 17 rounds of 22 turns take 9622, and the 8 wraps behind them 27 and 7 times 44.
        due.is("wind(500)", x.wind(500), 382);
        due.is("wind(1) with an empty cone", x.wind(1), NONE);
        due.is("wind(0) with an empty cone", x.wind(0), BAD_VALUE);
    }

    private static void windOutOfThread() {
        due.about("promise 3, end of the thread");
        ThreadWinder x = new ThreadWinder();
        x.cone(25);
        due.is("wind(9)", x.wind(9), 2);
        due.is("cone", x.count(1), 0);
        due.is("the turn without a wrap counts", x.count(12), 3);
        due.is("guide stays in it", x.count(2), 10);
        due.is("warmth stays in it", x.count(4), 4);
        due.is("no break", x.count(6), 0);
        due.is("wind(1)", x.wind(1), NONE);

        x = new ThreadWinder();
        x.cone(9);
        due.is("no wrap at all, yet not idle", x.wind(500), 0);
        due.is("an act", x.count(15), 2);
        due.is("no wrap", x.count(0), 0);
        due.is("one turn", x.count(12), 1);

        x = new ThreadWinder();
        x.cone(10);
        due.is("just enough", x.wind(5), 1);
        due.is("cone is empty", x.count(7), 1);
        due.is("guide went on", x.count(2), 5);
        due.is("one turn", x.count(12), 1);

        x = new ThreadWinder();
        x.set(TRAVERSE, 11);
        x.cone(31);
        due.is("a higher place takes more", x.wind(3), 3);
        due.is("10, 10 and 11", x.count(1), 0);
    }

    private static void windTension() {
        due.about("promise 3, tension");
        ThreadWinder x = new ThreadWinder();
        x.set(TRAVERSE, 11);
        x.set(DISCS, 2);
        x.wind(1);
        due.is("first wrap", x.count(5), 8);
        x.wind(1);
        due.is("1 beside 1", x.count(5), 8);
        x.wind(1);
        due.is("2 beside 1", x.count(5), 10);
        x.wind(1);
        due.is("2 beside 2", x.count(5), 8);
        x.set(TRAVERSE, 5);
        x.wind(1);
        due.is("3 beside 2", x.count(5), 10);
        x.wind(1);
        due.is("1 beside 3", x.count(5), 12);
        due.is("warmth", x.count(4), 6);
        x.set(DISCS, 7);
        x.wind(1);
        due.is("warmth before the turn is 6", x.count(5), 28);
        due.is("warmth", x.count(4), 12);
        x.wind(1);
        due.is("warmth before the turn is 12", x.count(5), 29);
    }

    private static void windWarmth() {
        due.about("promise 3, warmth");
        ThreadWinder x = new ThreadWinder();
        x.set(DISCS, 0);
        x.wind(5);
        due.is("not below 0", x.count(4), 0);
        x.set(STRENGTH, 99);
        x.set(DISCS, 9);
        x.wind(37);
        due.is("37 turns by 8", x.count(4), 296);
        x.wind(1);
        due.is("at most 300", x.count(4), 300);
        x.wind(1);
        due.is("at most 300 still", x.count(4), 300);
        x.set(DISCS, 1);
        x.wind(3);
        due.is("one disc keeps it", x.count(4), 300);
        x.set(DISCS, 0);
        x.wind(3);
        due.is("no disc cools it", x.count(4), 297);
    }

    private static void windBreaks() {
        due.about("promise 3, breaks");
        ThreadWinder x = new ThreadWinder();
        x.set(STRENGTH, 12);
        due.is("12 is not too much, 13 is", x.wind(500), 6);
        due.is("tension", x.count(5), 13);
        due.is("broken", x.count(6), 1);
        due.is("breaks", x.count(13), 1);
        due.is("warmth grew in the turn of the break", x.count(4), 12);
        due.is("guide went on in it", x.count(2), 8);
        due.is("forth", x.count(3), 0);
        due.is("the wrap was laid", x.place(3, 0), 1);
        due.is("idle", x.wind(3), NONE);
        due.is("turns", x.count(12), 6);
        due.is("knot()", x.knot(), 1);
        due.is("breaks again", x.wind(3), 1);
        due.is("breaks", x.count(13), 2);
    }

    private static void windWobble() {
        due.about("promise 3, wobble");
        ThreadWinder x = new ThreadWinder();
        x.set(TRAVERSE, 1);
        x.wind(8);
        due.is("none", x.count(2), 8);
        for (int wobble = 1; wobble <= 5; wobble++) {
            int every = 8 - wobble;
            x = new ThreadWinder();
            x.set(TRAVERSE, 1);
            x.set(WOBBLE, wobble);
            x.wind(every - 1);
            due.is("before", x.count(2), every - 1);
            x.wind(1);
            due.is("in the turn", x.count(2), every + 1);
            x.wind(1);
            due.is("behind", x.count(2), every + 2);
        }
        x = new ThreadWinder();
        x.set(TRAVERSE, 1);
        x.set(WOBBLE, 5);
        x.wind(2);
        x.doff();
        x.wind(1);
        due.is("the third turn, of whatever package", x.count(2), 2);

        x = new ThreadWinder();
        x.set(TRAVERSE, 1);
        x.set(WOBBLE, 5);
        x.wind(1);
        x.doff();
        x.cone(5);
        x.wind(1);
        x.cone(100);
        x.wind(1);
        due.is("the turn without a wrap has a number too", x.count(2), 2);

        x = new ThreadWinder();
        x.set(TRAVERSE, 11);
        x.set(WOBBLE, 5);
        x.wind(3);
        due.is("12 places from 0", x.count(2), 10);
        due.is("back", x.count(3), 1);
    }

    private static ThreadWinder fullPackage() {
        ThreadWinder x = new ThreadWinder();
        x.set(TRAVERSE, 11);
        for (int i = 0; i < 20 && x.count(8) == 0; i++) {
            x.cone(9999);
            x.knot();
            x.wind(500);
        }
        return x;
    }

    private static void windFullPackage() {
        due.about("promise 3, full");
        ThreadWinder x = fullPackage();
        due.is("full", x.count(8), 1);
        due.is("height of 0", x.place(0, 0), 200);
        due.is("height of 11", x.place(11, 0), 199);
        due.is("wraps", x.count(0), 399);
        due.is("guide went on", x.count(2), 11);
        int left = x.count(1);
        due.holds("thread is left", left > 0);
        due.is("wind(1)", x.wind(1), NONE);
        due.is("cone", x.count(1), left);
        due.is("breaksIn()", x.breaksIn(), NONE);
        due.is("doff()", x.doff(), 399);
        due.is("not full any more", x.count(8), 0);
        due.is("wind(1)", x.wind(1), 1);
    }

    private static void knotPlaces() {
        due.about("promise 4");
        ThreadWinder x = new ThreadWinder();
        x.set(STRENGTH, 10);
        x.wind(1);
        due.is("knot()", x.knot(), 1);
        due.is("at the last wrap", x.place(0, 1), 1);
        due.is("not at the guide", x.place(5, 1), 0);
        due.is("10 and 10 used up", x.count(1), 4980);
        due.is("not broken", x.count(6), 0);
        due.is("knot() of a whole thread", x.knot(), NONE);
        due.is("two acts behind set()", x.count(15), 3);
        x.cone(100);
        x.set(KNOT_LENGTH, 50);
        due.is("second", x.knot(), 2);
        due.is("50 used up", x.count(1), 50);
        x.cone(50);
        due.is("third, with all that is left", x.knot(), 3);
        due.is("cone is empty", x.count(7), 1);
        due.is("all knots", x.count(11), 3);
        due.is("breaks: a new cone is none", x.count(13), 1);
    }

    private static void knotErrors() {
        due.about("promise 4, errors");
        ThreadWinder x = new ThreadWinder();
        due.is("whole", x.knot(), NONE);
        x.cone(9);
        due.is("too little, and whole", x.knot(), NOT_POSSIBLE);
        x.cone(10);
        due.is("enough, and whole", x.knot(), NONE);
        x.wind(1);
        x.cone(9);
        due.is("too little", x.knot(), NOT_POSSIBLE);
        due.is("changes nothing", x.count(1), 9);
        due.is("broken still", x.count(6), 1);
        due.is("no act", x.count(15), 4);
    }

    private static void coneChanges() {
        due.about("promise 5");
        ThreadWinder x = new ThreadWinder();
        due.is("cone(0)", x.cone(0), BAD_VALUE);
        due.is("cone(-5)", x.cone(-5), BAD_VALUE);
        due.is("cone(10000)", x.cone(10000), BAD_VALUE);
        due.is("cone(MAX)", x.cone(Integer.MAX_VALUE), BAD_VALUE);
        due.is("no act", x.count(15), 0);
        due.is("cone(1)", x.cone(1), 5000);
        due.is("an act", x.count(15), 1);
        due.is("not broken without a wrap", x.count(6), 0);
        due.is("cone(9999)", x.cone(9999), 1);
        due.is("in the place of the old one", x.count(1), 9999);
        x.wind(1);
        due.is("cone(9999) again", x.cone(9999), 9989);
        due.is("broken", x.count(6), 1);
        x.doff();
        x.cone(5);
        due.is("not broken on a new package", x.count(6), 0);
        x.wind(1);
        due.is("cone(7)", x.cone(7), 0);
        due.is("an empty one leaves 0, an act", x.count(15), 4);
    }

    private static void doffBeginsAnew() {
        due.about("promise 6");
        ThreadWinder x = new ThreadWinder();
        due.is("nothing on", x.doff(), NONE);
        due.is("no act", x.count(15), 0);
        x.set(TRAVERSE, 7);
        x.set(STRENGTH, 10);
        x.wind(1);
        x.knot();
        x.wind(1);
        due.is("broken", x.count(6), 1);
        due.is("doff()", x.doff(), 2);
        int[] what = {0, 1, 2, 3, 4, 5, 6, 9, 11, 12, 13, 14, 20, 24};
        int[] want = {0, 4970, 0, 0, 4, 0, 0, 0, 0, 2, 2, 1, 7, 10};
        for (int i = 0; i < what.length; i++) {
            due.is("count(" + what[i] + ")", x.count(what[i]), want[i]);
        }
        due.is("height of 0", x.place(0, 0), 0);
        due.is("knots of 0", x.place(0, 1), 0);
        due.is("doff() again", x.doff(), NONE);
        x.set(DISCS, 0);
        x.wind(1);
        due.is("first wrap has no wrap before it", x.count(5), 0);
        due.is("doff()", x.doff(), 1);
        due.is("packages", x.count(14), 2);
    }

    private static void typeAndClear() {
        due.about("promises 7 and 8");
        ThreadWinder x = new ThreadWinder();
        due.is("clearText() of an empty one", x.clearText(), 0);
        for (int i = 1; i <= 60; i++) {
            due.is("type", x.type((char) (i * 1000)), i);
        }
        due.is("no room", x.type('n'), FULL);
        due.is("length", x.count(16), 60);
        due.is("no act", x.count(15), 0);
        due.is("clearText()", x.clearText(), 60);
        due.is("length", x.count(16), 0);
        due.is("type", x.type('n'), 1);
        due.is("perform()", x.perform(), 1);
        due.is("the text stays", x.count(16), 1);
        due.is("behind what was", x.type(','), 2);
    }

    private static int performed(ThreadWinder x, String text) {
        x.clearText();
        for (int i = 0; i < text.length(); i++) {
            x.type(text.charAt(i));
        }
        return x.perform();
    }

    private static void fault(String text, int want) {
        ThreadWinder x = new ThreadWinder();
        due.is("perform() of \"" + text + "\"", performed(x, text), -100 - want);
        due.is("no act", x.count(15), 0);
        due.is("no stop", x.stopped(), NONE);
    }

    private static void performFaults() {
        due.about("promise 9, faults");
        fault("", 0);
        String[] atStart = {" t1", "T1", "x", ",", "5", "\u0100t1", "\u0674", "-"};
        for (String text : atStart) {
            fault(text, 0);
        }
        String[] atOne = {"t", "t0", "t,", "d", "d-1", "w6", "w9", "k0", "s0", "g0", "c0", "c,", "n1",
            "nn", "n ", "tt", "t\u0661", "g+5", "k"};
        for (String text : atOne) {
            fault(text, 1);
        }
        String[] atTwo = {"t12", "t20", "d10", "d00", "d05", "w00", "w01", "w10", "w5n", "k4", "k4,",
            "k51", "k60", "k4n", "s9", "s9,", "s5n", "n,", "n,,", "n,5", "d3.", "t1t", "t99"};
        for (String text : atTwo) {
            fault(text, 2);
        }
        String[] atThree = {"t1,", "t110", "k100", "k500", "s100", "s99n", "g501", "g510", "g600",
            "n,t", "n,t0", "d0,x"};
        for (String text : atThree) {
            fault(text, 3);
        }
        fault("g5000", 4);
        fault("c10000", 5);
        fault("c99990", 5);
        fault("t5,d3,w0,k10,s60,g1,n,c9,q", 25);
        fault("n,n,n,n,n,n,n,n,n,n,n,n,n,n,n,n,n,n,n,n,n,n,n,n,n,n,n,n,n,n,", 60);
    }

    private static void complete(String text, int commands) {
        ThreadWinder x = new ThreadWinder();
        due.is("perform() of \"" + text + "\"", performed(x, text), commands);
        due.is("one act", x.count(15), 1);
    }

    private static void performCompleteTexts() {
        due.about("promise 9, texts without a fault");
        String[] single = {"t1", "t9", "t10", "t11", "d0", "d9", "w0", "w5", "k5", "k9", "k10", "k50",
            "s10", "s99", "g1", "g9", "g99", "g500", "n", "c1", "c9999"};
        for (String text : single) {
            complete(text, 1);
        }
        complete("t5,d3,w0,k10,s60,g1,n,c9", 8);
        complete("n,n,n,n,n,n,n,n,n,n,n,n,n,n,n,n,n,n,n,n,n,n,n,n,n,n,n,n,n,n", 30);
        complete("n,n,n,n,n,n,n,n,n,n,n,n,n,n,n,n,n,n,n,n,n,n,n,n,n,n,n,n,t11", 29);
    }

    private static void performActs() {
        due.about("promise 9, acts");
        ThreadWinder x = new ThreadWinder();
        due.is("all commands", performed(x, "t11,d0,w5,k20,s99,g3,c70,n"), 8);
        int[] what = {0, 1, 2, 11, 12, 15, 20, 21, 22, 23, 24};
        int[] want = {3, 50, 10, 1, 3, 1, 11, 0, 5, 20, 99};
        for (int i = 0; i < what.length; i++) {
            due.is("count(" + what[i] + ")", x.count(what[i]), want[i]);
        }
        due.is("knot at the last wrap", x.place(0, 1), 1);
        due.is("undo() of all of them", x.undo(), 0);
        due.is("wraps", x.count(0), 0);
        due.is("traverse", x.count(20), 5);
        due.is("cone", x.count(1), 5000);

        x = new ThreadWinder();
        due.is("nothing is done: an act all the same", performed(x, "t5,d3,n"), 3);
        due.is("one act", x.count(15), 1);
        x.cone(5);
        x.wind(1);
        due.is("an idle turn does nothing", performed(x, "g5"), 1);
        due.is("performed again", x.perform(), 1);
        due.is("history", x.count(15), 4);
    }

    private static void performStops() {
        due.about("promises 9 and 10");
        ThreadWinder x = new ThreadWinder();
        due.is("n needs the knot length", performed(x, "t3,g2,c9,n,d5"), NOT_POSSIBLE);
        due.is("stopped()", x.stopped(), 3);
        due.is("nothing done", x.count(0), 0);
        due.is("traverse", x.count(20), 5);
        due.is("cone", x.count(1), 5000);
        due.is("no act", x.count(15), 0);
        due.is("also of a whole thread", performed(x, "c9,n"), NOT_POSSIBLE);
        due.is("stopped()", x.stopped(), 1);
        due.is("a fault", performed(x, "c9,n,"), -105);
        due.is("stopped() stays behind a fault", x.stopped(), 1);
        due.is("done", performed(x, "c9"), 1);
        due.is("stopped() stays", x.stopped(), 1);
        x.undo();
        due.is("stopped() is not in a state", x.stopped(), 1);
        x.cone(5);
        due.is("the first command", performed(x, "n,t1"), NOT_POSSIBLE);
        due.is("stopped()", x.stopped(), 0);
        due.is("the knot length as it is then", performed(x, "c9,k9,n"), 3);
    }

    private static void undoSteps() {
        due.about("promise 11");
        ThreadWinder x = new ThreadWinder();
        for (int value = 1; value <= 7; value++) {
            x.set(TRAVERSE, value == 5 ? 11 : value);
        }
        due.is("at most 4", x.count(15), 4);
        int[] values = {6, 11, 4, 3};
        for (int i = 0; i < 4; i++) {
            due.is("undo()", x.undo(), 3 - i);
            due.is("traverse", x.count(20), values[i]);
        }
        due.is("undo() of nothing", x.undo(), NONE);
        due.is("traverse", x.count(20), 3);
        x.set(TRAVERSE, 9);
        x.set(TRAVERSE, 10);
        due.is("undo()", x.undo(), 1);
        due.is("traverse", x.count(20), 9);
        x.set(TRAVERSE, 8);
        due.is("undo()", x.undo(), 1);
        due.is("undo()", x.undo(), 0);
        due.is("traverse", x.count(20), 3);
    }

    private static void undoRestoresAll() {
        due.about("promise 11, what is in a state");
        ThreadWinder x = new ThreadWinder();
        x.set(STRENGTH, 10);
        x.wind(1);
        x.type('n');
        x.keep();
        x.doff();
        x.set(DISCS, 9);
        x.wind(1);
        x.cone(77);
        due.is("undo()", x.undo(), 3);
        due.is("undo()", x.undo(), 2);
        due.is("undo()", x.undo(), 1);
        due.is("undo()", x.undo(), 0);
        int[] what = {0, 1, 2, 4, 5, 6, 11, 12, 13, 14, 15, 16, 21, 24};
        int[] want = {1, 4990, 5, 2, 12, 1, 0, 1, 1, 0, 0, 1, 3, 10};
        for (int i = 0; i < what.length; i++) {
            due.is("count(" + what[i] + ")", x.count(what[i]), want[i]);
        }
        due.is("height of 0", x.place(0, 0), 1);
        due.is("the last wrap is known again", x.knot(), 1);
        due.is("knots of 0", x.place(0, 1), 1);
        x.undo();
        due.is("no knot", x.place(0, 1), 0);
        due.is("the snapshot stays", x.restore(), 1);
    }

    private static void triedIsGone() {
        due.about("what a call tried is gone");
        ThreadWinder x = new ThreadWinder();
        x.wind(2);
        performed(x, "t3,c9,n");
        due.is("knot() behind a stop: a whole thread", x.knot(), NONE);
        performed(x, "t3,c9,n");
        due.is("wind() behind a stop", x.wind(1), 1);
        due.is("wraps", x.count(0), 3);
        due.is("cone", x.count(1), 4970);
        x.undo();
        due.is("cone() behind undo()", x.cone(900), 4980);
        x.undo();
        due.is("doff() behind undo()", x.doff(), 2);
        x.undo();
        due.is("perform() behind undo()", performed(x, "c800"), 1);
        due.is("wraps", x.count(0), 2);
        due.is("cone", x.count(1), 800);
        x.undo();
        x.set(STRENGTH, 12);
        due.is("breaksIn()", x.breaksIn(), 4);
        due.is("breaksIn() again", x.breaksIn(), 4);
        x.undo();
        x.undo();
        // In the tenth round 6 gets its 20th wrap behind the 10th of 11: 12 and 30 and 20.
        due.is("breaksIn() of what it is then", x.breaksIn(), 211);
        due.is("wraps", x.count(0), 0);
        due.is("set() behind breaksIn()", x.set(WOBBLE, 1), 0);
        due.is("wraps", x.count(0), 0);
    }

    private static void keepAndRestore() {
        due.about("promises 12 and 13");
        ThreadWinder x = new ThreadWinder();
        due.is("restore() of nothing", x.restore(), NONE);
        due.is("no act", x.count(15), 0);
        x.wind(3);
        due.is("keep()", x.keep(), 3);
        due.is("keep() is no act", x.count(15), 1);
        x.wind(4);
        x.type('g');
        due.is("restore()", x.restore(), 3);
        due.is("wraps", x.count(0), 3);
        due.is("cone", x.count(1), 4970);
        due.is("guide", x.count(2), 7);
        due.is("an act", x.count(15), 3);
        due.is("the text stays", x.count(16), 1);
        x.doff();
        due.is("it stays", x.restore(), 3);
        due.is("undo() of restore()", x.undo(), 3);
        due.is("wraps", x.count(0), 0);
        due.is("keep() in its place", x.keep(), 0);
        due.is("undo()", x.undo(), 2);
        due.is("restore()", x.restore(), 0);
        due.is("restore() as it is", x.restore(), 0);
        due.is("an act as well", x.count(15), 4);
    }

    private static void placeTells() {
        due.about("promise 14");
        ThreadWinder x = new ThreadWinder();
        due.is("place(-1, 0)", x.place(-1, 0), UNKNOWN);
        due.is("place(12, 0)", x.place(12, 0), UNKNOWN);
        due.is("place(12, 9): UNKNOWN is looked at first", x.place(12, 9), UNKNOWN);
        due.is("place(MIN, 0)", x.place(Integer.MIN_VALUE, 0), UNKNOWN);
        due.is("place(MAX, 0)", x.place(Integer.MAX_VALUE, 0), UNKNOWN);
        due.is("place(0, -1)", x.place(0, -1), BAD_VALUE);
        due.is("place(11, 4)", x.place(11, 4), BAD_VALUE);
        x.set(TRAVERSE, 11);
        x.wind(3);
        due.is("height", x.place(0, 0), 2);
        due.is("height", x.place(11, 0), 1);
        due.is("height", x.place(5, 0), 0);
        for (int knots = 1; knots <= 3; knots++) {
            due.is("bad only above 2 knots", x.place(0, 3), 0);
            x.cone(500);
            due.is("knot()", x.knot(), knots);
            due.is("knots", x.place(0, 1), knots);
        }
        due.is("bad", x.place(0, 3), 1);
        due.is("another is not", x.place(11, 3), 0);
    }

    private static void placeRibbons() {
        due.about("promise 14, ribbons");
        ThreadWinder x = new ThreadWinder();
        x.set(TRAVERSE, 11);
        x.wind(11);
        due.is("6 at 0", x.place(0, 2), 1);
        due.is("5 at 11", x.place(11, 2), 0);
        due.is("one", x.count(10), 1);
        x.wind(1);
        due.is("6 at 11", x.place(11, 2), 1);
        due.is("two", x.count(10), 2);
        due.is("none beside", x.place(1, 2), 0);

        x = new ThreadWinder();
        x.set(TRAVERSE, 2);
        x.wind(11 * 3);
        due.is("6 at 2 between bare places", x.place(2, 2), 1);
        due.is("3 at 0", x.place(0, 2), 0);
        due.is("five", x.count(10), 5);

        x = new ThreadWinder();
        x.set(TRAVERSE, 11);
        x.wind(13);
        x.set(TRAVERSE, 10);
        x.wind(1);
        x.set(TRAVERSE, 11);
        x.wind(12);
        due.is("7 beside 6 at the lower end", x.place(0, 2), 0);
        due.is("6 beside 7 and 0", x.place(1, 2), 0);
        due.is("7 beside 7 at the upper end", x.place(11, 2), 0);
        due.is("7 beside 7 and 0", x.place(10, 2), 0);
    }

    private static void wrongInOrder() {
        due.about("promise 15");
        ThreadWinder x = new ThreadWinder();
        due.is("nothing", x.wrong(), 0);
        x.set(TRAVERSE, 11);
        x.wind(10);
        due.is("5 is no ribbon", x.wrong(), 0);
        x.wind(1);
        due.is("a ribbon", x.wrong(), 4);
        x.set(KNOT_LENGTH, 5);
        for (int i = 0; i < 3; i++) {
            x.cone(1000);
            due.is("broken is first", x.wrong(), 1);
            x.knot();
        }
        due.is("a bad place before a ribbon", x.wrong(), 3);
        x.cone(5);
        x.knot();
        due.is("an empty cone before a bad place", x.wrong(), 2);
        x.cone(1);
        due.is("broken", x.wrong(), 1);
        x.doff();
        due.is("nothing on a new package", x.wrong(), 0);

        // The places 0, 1, 10 and 11 in turn: each has one as high beside it, so none is a ribbon.
        int[] moves = {1, 9, 1, 11};
        x = new ThreadWinder();
        for (int round = 0; round < 10; round++) {
            for (int move : moves) {
                x.set(TRAVERSE, move);
                x.wind(1);
            }
            due.is("evenness", x.count(9), round + 1);
            due.is("five from 10 on", x.wrong(), round < 9 ? 0 : 5);
        }
        due.is("no ribbon", x.count(10), 0);
    }

    private static void breaksInTurns() {
        due.about("promise 16");
        ThreadWinder x = new ThreadWinder();
        x.set(STRENGTH, 12);
        due.is("in the sixth turn", x.breaksIn(), 6);
        due.is("nothing is wound", x.count(0), 0);
        due.is("no act", x.count(15), 1);
        x.wind(2);
        due.is("in the fourth", x.breaksIn(), 4);
        x.wind(3);
        due.is("in the next", x.breaksIn(), 1);
        x.wind(1);
        due.is("broken", x.breaksIn(), NOT_POSSIBLE);
        x.doff();
        x.set(STRENGTH, 99);
        due.is("the cone ends before", x.breaksIn(), NONE);
        x.cone(9);
        due.is("a cone that ends at once", x.breaksIn(), NONE);
        x.wind(1);
        due.is("empty cone", x.breaksIn(), NOT_POSSIBLE);
        x.cone(10);
        x.set(STRENGTH, 10);
        due.is("a break with the last of the thread", x.breaksIn(), 1);
    }

    private static void ifTraverseTells() {
        due.about("promise 17");
        ThreadWinder x = new ThreadWinder();
        due.is("traverse 0", x.ifTraverse(0, 1, 0), BAD_VALUE);
        due.is("traverse 12", x.ifTraverse(12, 1, 0), BAD_VALUE);
        due.is("turns 0", x.ifTraverse(1, 0, 0), BAD_VALUE);
        due.is("turns 501", x.ifTraverse(1, 501, 0), BAD_VALUE);
        due.is("what -1", x.ifTraverse(1, 1, -1), BAD_VALUE);
        due.is("what 3", x.ifTraverse(1, 1, 3), BAD_VALUE);
        due.is("evenness", x.ifTraverse(11, 60, 0), 30);
        due.is("ribbons", x.ifTraverse(11, 60, 1), 2);
        due.is("bare places", x.ifTraverse(11, 60, 2), 10);
        due.is("evenness of a whole round", x.ifTraverse(1, 22, 0), 1);
        due.is("bare places of one turn", x.ifTraverse(4, 1, 2), 11);
        due.is("a full package takes no more", x.ifTraverse(11, 500, 0), 200);
        due.is("not yet full", x.ifTraverse(11, 398, 0), 199);
        x.set(WOBBLE, 5);
        due.is("with the wobble: 0, 11, 0, 10", x.ifTraverse(11, 4, 2), 9);
        x.set(STRENGTH, 10);
        x.cone(1);
        x.wind(1);
        due.is("no matter what is on the machine", x.ifTraverse(11, 4, 2), 9);
        due.is("no act", x.count(15), 4);
        due.is("traverse stays", x.count(20), 5);
        due.is("wraps stay", x.count(0), 0);
        x.doff();
        x.cone(5000);
        x.wind(1);
        due.is("turns are counted from 1", x.ifTraverse(11, 4, 2), 9);
    }

    private static void bestTraverseFinds() {
        due.about("promise 18");
        ThreadWinder x = new ThreadWinder();
        due.is("turns 0", x.bestTraverse(0), BAD_VALUE);
        due.is("turns 501", x.bestTraverse(501), BAD_VALUE);
        due.is("turns -1", x.bestTraverse(-1), BAD_VALUE);
        due.is("all are even: the lowest", x.bestTraverse(1), 1);
        due.is("all rounds are alike: the lowest", x.bestTraverse(66), 1);
        for (int wobble = 0; wobble <= 5; wobble++) {
            // An object is used for at most 512 calls, so each wobble has its own.
            x = new ThreadWinder();
            x.set(WOBBLE, wobble);
            for (int turns = 1; turns <= 500; turns += 71) {
                int best = 1;
                for (int traverse = 2; traverse <= 11; traverse++) {
                    if (x.ifTraverse(traverse, turns, 0) < x.ifTraverse(best, turns, 0)) {
                        best = traverse;
                    }
                }
                due.is("turns " + turns + ", wobble " + wobble, x.bestTraverse(turns), best);
            }
        }
        ThreadWinder y = new ThreadWinder();
        y.set(WOBBLE, 5);
        due.is("not the lowest of all", y.bestTraverse(500), 2);
        due.is("no act", y.count(15), 1);
    }

    private static void periods() {
        due.about("promise 19");
        ThreadWinder x = new ThreadWinder();
        due.is("period(0)", x.period(0), BAD_VALUE);
        due.is("period(12)", x.period(12), BAD_VALUE);
        due.is("period(-1)", x.period(-1), BAD_VALUE);
        due.is("period(MAX)", x.period(Integer.MAX_VALUE), BAD_VALUE);
        int[] want = {22, 11, 22, 11, 22, 11, 22, 11, 22, 11, 2};
        for (int traverse = 1; traverse <= 11; traverse++) {
            due.is("period(" + traverse + ")", x.period(traverse), want[traverse - 1]);
        }
        x.set(WOBBLE, 5);
        x.wind(3);
        due.is("no matter the wobble and the guide", x.period(4), 11);
        due.is("no act", x.count(15), 2);
    }

    private static void countTells() {
        due.about("promise 20");
        ThreadWinder x = new ThreadWinder();
        int[] bad = {-1, 17, 18, 19, 25, Integer.MIN_VALUE, Integer.MAX_VALUE};
        for (int what : bad) {
            due.is("count(" + what + ")", x.count(what), BAD_VALUE);
        }
        x.set(TRAVERSE, 11);
        x.set(STRENGTH, 12);
        x.set(WOBBLE, 1);
        x.set(KNOT_LENGTH, 20);
        x.type('n');
        x.wind(3);
        x.knot();
        x.wind(8);
        x.doff();
        x.wind(3);
        x.knot();
        x.wind(1);
        x.knot();
        // The thread breaks at each second wrap at 0, by 2 beside 1 and 3 beside 2; on the second
        // package, with the warmth 10 and 12, at each wrap. The seventh turn goes 12 places on.
        int[] what = {0, 1, 2, 3, 4, 5, 6, 7, 8, 9, 10, 11, 12, 13, 14, 15, 16, 20, 21, 22, 23, 24};
        int[] want = {2, 4866, 1, 0, 14, 13, 0, 0, 0, 1, 0, 2, 7, 4, 1, 4, 1, 11, 3, 1, 20, 12};
        for (int i = 0; i < what.length; i++) {
            due.is("count(" + what[i] + ")", x.count(what[i]), want[i]);
        }
    }
}
