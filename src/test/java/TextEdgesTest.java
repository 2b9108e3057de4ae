/** The edges of the text and of what performs it: promises 7 to 10, and the terms of texts. */
public final class TextEdgesTest extends Bench {
    private static final String LETTERS = "tdwksgc";
    private static final int[] LEAST = {1, 0, 0, 5, 10, 1, 1};
    private static final int[] MOST = {11, 9, 5, 50, 99, 500, 9999};

    // 29 times "n,": 58 characters, so that two are left of the 60.
    private static final String LONG = "n,".repeat(29);

    public static void main(String[] args) {
        textIsEmptyAtFirst();
        typeTakesAnyCharacter();
        typeEndsAt60();
        clearTextTellsTheLength();
        emptyTextEndsTooEarly();
        numbersDigitByDigit();
        numbersWithOtherCharactersBehind();
        nextCharacters();
        commasStandBetween();
        faultIsTheFirst();
        faultAtTheEndOfTheRoom();
        performsUpTo30();
        performIsOneAct();
        performOfWhatDoesNothing();
        performChangesNothingByAFault();
        performChangesNothingByAStop();
        performStopsByTooLittleAlone();
        performLooksAtFaultsFirst();
        textStays();
        stoppedTellsOfTheLatest();
        stoppedStays();
        due.end();
    }

    private static void textIsEmptyAtFirst() {
        due.about("\"There is a text of at most 60 characters, empty at first\"");
        ThreadWinder x = new ThreadWinder();
        counts(x, TEXT_LENGTH, 0);
        due.is("clearText()", x.clearText(), 0);
        due.is("clearText() again", x.clearText(), 0);
        due.is("perform()", x.perform(), -100);
    }

    private static void typeTakesAnyCharacter() {
        due.about("promise 7: \"any character\"");
        char[] some = {0, 1, '\n', ' ', 127, 128, 255, 256, 0x660, 0xd800, 0xdfff, 0xfffe, 0xffff};
        ThreadWinder x = new ThreadWinder();
        for (int i = 0; i < some.length; i++) {
            due.is("type((char) " + (int) some[i] + ")", x.type(some[i]), i + 1);
            counts(x, TEXT_LENGTH, i + 1);
        }
        for (char c : some) {
            x.clearText();
            x.type(c);
            due.is("a fault at 0 by " + (int) c, x.perform(), -100);
        }
    }

    private static void typeEndsAt60() {
        due.about("promise 7: \"FULL if it has 60 characters\"");
        ThreadWinder x = new ThreadWinder();
        for (int i = 1; i <= 59; i++) {
            x.type(i % 2 == 1 ? 'n' : ',');
        }
        due.is("29 commas and 30 knots", x.perform(), 30);
        due.is("the 60th", x.type(','), 60);
        due.is("the 61st", x.type('n'), FULL);
        due.is("the 62nd", x.type(' '), FULL);
        counts(x, TEXT_LENGTH, 60);
        due.is("not added", x.perform(), -160);
        due.is("clearText()", x.clearText(), 60);
        due.is("room again", x.type('n'), 1);
        due.is("the old text is gone", x.perform(), 1);
        unchanged("type at 60", y -> write(y, LONG + "t1"), y -> y.type('1'), FULL);
    }

    private static void clearTextTellsTheLength() {
        due.about("promise 8: \"Returns the length that it had\"");
        for (int length = 0; length <= 60; length += 20) {
            ThreadWinder x = new ThreadWinder();
            write(x, "q".repeat(length));
            due.is("clearText()", x.clearText(), length);
            counts(x, TEXT_LENGTH, 0);
            due.is("clearText() again", x.clearText(), 0);
            counts(x, STATES, 0);
        }
    }

    private static int faultOf(String text) {
        int answer = performed(new ThreadWinder(), text);
        return answer <= -100 ? -100 - answer : -1;
    }

    private static void fault(String text, int want) {
        due.is("fault of \"" + text + "\"", faultOf(text), want);
    }

    private static void emptyTextEndsTooEarly() {
        due.about("\"the length of the text if it ends too early (the empty text does\"");
        fault("", 0);
        ThreadWinder x = new ThreadWinder();
        write(x, "n");
        x.clearText();
        due.is("cleared", x.perform(), -100);
        due.is("no act", x.count(STATES), 0);
    }

    /** The index of the first digit that is not allowed, the length if more must come, or -1. */
    private static int faultOfDigits(int least, int most, String digits) {
        int value = 0;
        for (int i = 0; i < digits.length(); i++) {
            int digit = digits.charAt(i) - '0';
            value = 10 * value + digit;
            boolean zeroInFront = i > 0 && digits.charAt(0) == '0';
            boolean zeroTooSmall = i == 0 && digit == 0 && least > 0;
            if (zeroInFront || zeroTooSmall || value > most) {
                return i;
            }
        }
        return digits.length() == 0 || value < least ? digits.length() : -1;
    }

    private static void digits(int which, String digits) {
        String text = LETTERS.charAt(which) + digits;
        int want = faultOfDigits(LEAST[which], MOST[which], digits);
        fault(text, want < 0 ? -1 : 1 + want);
        // Behind a number that is complete a comma may stand, behind any other one not.
        fault(text + ",n", want < 0 ? -1 : 1 + want);
        fault("n," + text, want < 0 ? -1 : 3 + want);
    }

    private static void numbersDigitByDigit() {
        due.about("\"a number (the numbers 0 to 4, in their ranges) .. a digit .. is not allowed\"");
        String[] longer = {"0000", "0999", "1000", "4999", "5000", "9998", "9999", "00000", "09999",
            "10000", "99990", "99999", "100000", "999999999999", "4294967297", "2147483648"};
        for (int which = 0; which < LETTERS.length(); which++) {
            digits(which, "");
            for (int number = 0; number <= 999; number++) {
                digits(which, String.valueOf(number));
            }
            for (int number = 0; number <= 99; number++) {
                digits(which, "0" + number);
            }
            for (String digits : longer) {
                digits(which, digits);
            }
        }
        due.about("\"Numbers have no zero in front unless they are the single digit 0\"");
        fault("d0", -1);
        fault("d00", 2);
        fault("d01", 2);
        fault("w0", -1);
        fault("w05", 2);
        due.about("\"one whose range begins above 0 does not begin with 0\"");
        String[] withZero = {"t0", "t01", "k0", "k05", "s0", "s010", "g0", "g01", "c0", "c01"};
        for (String text : withZero) {
            fault(text, 1);
        }
        due.about("\"a digit by which a number would be greater than its range is not allowed\"");
        fault("t11", -1);
        fault("t12", 2);
        fault("d10", 2);
        fault("w6", 1);
        fault("k50", -1);
        fault("k51", 2);
        fault("s100", 3);
        fault("g500", -1);
        fault("g501", 3);
        fault("c10000", 5);
    }

    private static void numbersWithOtherCharactersBehind() {
        due.about("\"nor is anything but a digit behind a number that is less than its range\"");
        for (int number = 1; number <= 4; number++) {
            fault("k" + number + ",n", 2);
            fault("k" + number + "n", 2);
        }
        fault("k5,n", -1);
        for (int number = 1; number <= 9; number++) {
            fault("s" + number + ",n", 2);
            fault("s" + number + "x", 2);
        }
        fault("s10,n", -1);
        due.about("\"and one that ends with a number less than its range\"");
        fault("k4", 2);
        fault("k5", -1);
        fault("s9", 2);
        fault("s1", 2);
        fault("n,k1", 4);
        due.about("\"the length of the text if it ends too early\": behind a letter, behind a comma");
        fault("t", 1);
        fault("n,c", 3);
        fault("n,", 2);
        fault("c9999,", 6);
    }

    private static final char[] FAR = {0x660, 0x661, 0xff10, 0xff11, 0xff0c, 0x12c, 0x130, 0x174, 0x16e,
        0x206e, 0x302c, 0x4e6e, 0xd86e, 0xfffe, 0xffff};

    /** Behind a beginning, these characters may stand, and no other one. */
    private static void mayStandBehind(String beginning, String allowed, String complete) {
        for (int i = 0; i < 256 + FAR.length; i++) {
            char c = i < 256 ? (char) i : FAR[i - 256];
            boolean may = allowed.indexOf(c) >= 0;
            boolean ends = complete.indexOf(c) >= 0;
            int want = ends ? -1 : may ? beginning.length() + 1 : beginning.length();
            due.is("fault of \"" + beginning + "\" and (char) " + (int) c, faultOf(beginning + c), want);
        }
    }

    private static void nextCharacters() {
        due.about("\"The fault of the text is .. the first character that is not allowed at its place\"");
        mayStandBehind("", "tdwksgcn", "n");
        mayStandBehind("n", ",", "");
        mayStandBehind("n,", "tdwksgcn", "n");
        mayStandBehind("t", "123456789", "123456789");
        mayStandBehind("t1", "01,", "01");
        mayStandBehind("t2", ",", "");
        mayStandBehind("t11", ",", "");
        mayStandBehind("d", "0123456789", "0123456789");
        mayStandBehind("d0", ",", "");
        mayStandBehind("d9", ",", "");
        mayStandBehind("w", "012345", "012345");
        mayStandBehind("w0", ",", "");
        mayStandBehind("w5", ",", "");
        mayStandBehind("k", "123456789", "56789");
        mayStandBehind("k4", "0123456789", "0123456789");
        mayStandBehind("k5", "0,", "0");
        mayStandBehind("k6", ",", "");
        mayStandBehind("k50", ",", "");
        mayStandBehind("s", "123456789", "");
        mayStandBehind("s1", "0123456789", "0123456789");
        mayStandBehind("s9", "0123456789", "0123456789");
        mayStandBehind("s10", ",", "");
        mayStandBehind("s99", ",", "");
        mayStandBehind("g", "123456789", "123456789");
        mayStandBehind("g49", "0123456789,", "0123456789");
        mayStandBehind("g50", "0,", "0");
        mayStandBehind("g51", ",", "");
        mayStandBehind("g500", ",", "");
        mayStandBehind("c", "123456789", "123456789");
        mayStandBehind("c999", "0123456789,", "0123456789");
        mayStandBehind("c9999", ",", "");
    }

    private static void commasStandBetween() {
        due.about("\"one or more commands with \",\" between two\"");
        fault("n", -1);
        fault("n,n", -1);
        fault(",", 0);
        fault(",n", 0);
        fault("n,,n", 2);
        fault("n,", 2);
        fault("nn", 1);
        fault("t1t2", 2);
        fault("n;n", 1);
        fault("n, n", 2);
        fault("n ,n", 1);
    }

    private static void faultIsTheFirst() {
        due.about("\"the index, from 0, of the first character that is not allowed\"");
        fault("x", 0);
        fault("xx", 0);
        fault("t0x", 1);
        fault("t1,d0,w6,k4", 7);
        fault("k4,s9,x", 2);
        fault("g501,g501", 3);
        fault("N", 0);
        fault("T5", 0);
    }

    private static void faultAtTheEndOfTheRoom() {
        due.about("\"the length of the text if it ends too early\", at 60 characters");
        fault(LONG, 58);
        fault(LONG + "n,", 60);
        fault(LONG + "k4", 60);
        fault(LONG + "k5", -1);
        fault(LONG + "s1", 60);
        fault(LONG + "nt", 59);
        fault(LONG + "n1", 59);
        fault(LONG + "t0", 59);
        fault(LONG + "t", 59);
        fault(LONG + ",n", 58);
    }

    private static void performsUpTo30() {
        due.about("promise 9: \"Returns how many commands there are\"");
        due.is("one", performed(new ThreadWinder(), "n"), 1);
        due.is("two", performed(new ThreadWinder(), "n,t1"), 2);
        due.is("29", performed(new ThreadWinder(), "n,".repeat(28) + "n"), 29);
        due.is("30 of 59 characters", performed(new ThreadWinder(), LONG + "n"), 30);
        ThreadWinder x = new ThreadWinder();
        due.is("30 of 60 characters", performed(x, LONG + "t9"), 30);
        due.is("the last one is done", x.count(NUMBERS + TRAVERSE), 9);
        x = new ThreadWinder();
        due.is("the greatest and the least", performed(x, "t11,d9,w5,k50,s99,c9999,g500"), 7);
        int[] want = {11, 9, 5, 50, 99};
        for (int which = 0; which < 5; which++) {
            counts(x, NUMBERS + which, want[which]);
        }
        due.is("the least", performed(x, "t1,d0,w0,k5,s10,c1,g1"), 7);
        for (int which = 0; which < 5; which++) {
            counts(x, NUMBERS + which, LOWEST[which]);
        }
        counts(x, LEFT, 1);
    }

    private static void performIsOneAct() {
        due.about("promise 9: \"This is one act\"");
        ThreadWinder x = new ThreadWinder();
        x.set(WOBBLE, 3);
        performed(x, "t1,d2,w4,k20,s80,g9,c700,n,g5");
        counts(x, STATES, 2);
        counts(x, WRAPS, 14);
        due.is("undo()", x.undo(), 1);
        ThreadWinder y = new ThreadWinder();
        y.set(WOBBLE, 3);
        write(y, "t1,d2,w4,k20,s80,g9,c700,n,g5");
        alike("undone", x, y);

        due.about("promise 9: \"one after the other\"");
        x = new ThreadWinder();
        x.set(TRAVERSE, 11);
        due.is("commands", performed(x, "g2,c40,n,g1,n"), 5);
        counts(x, WRAPS, 3);
        counts(x, ALL_KNOTS, 1);
        due.is("knot behind the second wrap", x.place(11, KNOTS), 1);
    }

    private static void performOfWhatDoesNothing() {
        due.about("promise 9: \"one that would return NONE does nothing\"");
        ThreadWinder x = new ThreadWinder();
        due.is("all are so already", performed(x, "t5,d3,w0,k10,s60,n"), 6);
        due.is("an act yet, as it returns no error", x.count(STATES), 1);
        due.is("not stopped", x.stopped(), NONE);
        due.is("the next one is done", performed(x, "t5,t4,n,d3,d2"), 5);
        counts(x, NUMBERS + TRAVERSE, 4);
        counts(x, NUMBERS + DISCS, 2);
        x = new ThreadWinder();
        due.is("idle turns by an empty cone", performed(x, "c9,g1,g5,g500,t2"), 5);
        counts(x, TURNS, 1);
        counts(x, NUMBERS + TRAVERSE, 2);
        x = new ThreadWinder();
        due.is("idle turns by a break", performed(x, "s10,g1,g1,g9,n,n"), 6);
        counts(x, WRAPS, 1);
        counts(x, ALL_KNOTS, 1);
    }

    private static void performChangesNothingByAFault() {
        due.about("promise 9: \"all of them, or none\", by a fault");
        unchanged("the last character", x -> {
            busy(x);
            write(x, "t1,g5,c9,s100");
        }, x -> x.perform(), -112);
        unchanged("too early", x -> {
            busy(x);
            write(x, "t1,g5,");
        }, x -> x.perform(), -106);
        unchanged("the empty text", x -> {
            busy(x);
            x.clearText();
        }, x -> x.perform(), -100);
    }

    private static void stopped(String text, int at) {
        ThreadWinder x = new ThreadWinder();
        ThreadWinder y = new ThreadWinder();
        busy(x);
        busy(y);
        write(x, text);
        write(y, text);
        due.is("perform() of " + text, x.perform(), NOT_POSSIBLE);
        due.is("stopped()", x.stopped(), at);
        // The latest stop is the one thing that a stop changes: let the twin stop as well.
        counts(x, STATES, y.count(STATES));
        counts(x, LEFT, y.count(LEFT));
        counts(x, NUMBERS + TRAVERSE, 7);
        y.perform();
        alike(text, x, y);
    }

    private static void performChangesNothingByAStop() {
        due.about("promise 9: \"all of them, or none\", by a stop");
        stopped("c9,n", 1);
        stopped("t1,d1,g5,c9,n,t2", 4);
        stopped("c5,g1,n,n,n", 2);
        String changes = "t1,t2,t3,t4,t5,t6,t7,t8,t9,t1,t2,t3,t4,t5,t6,t7,t8,t9,";
        stopped(changes + "c1,n", 19);
        ThreadWinder x = new ThreadWinder();
        x.cone(9);
        due.is("the first command", performed(x, "n,t1,g5"), NOT_POSSIBLE);
        due.is("stopped()", x.stopped(), 0);
        due.is("the first of 30", performed(x, LONG + "n"), NOT_POSSIBLE);
        due.is("stopped()", x.stopped(), 0);
        counts(x, STATES, 1);
        counts(x, NUMBERS + TRAVERSE, 5);
        due.is("as it would be without", x.wind(1), 0);
    }

    private static void performStopsByTooLittleAlone() {
        due.about("promise 9: \"One whose method would return an error stops it\"");
        ThreadWinder x = new ThreadWinder();
        due.is("less than the knot length", performed(x, "g1,c9,n"), NOT_POSSIBLE);
        due.is("just the knot length", performed(x, "g1,c10,n"), 3);
        counts(x, LEFT, 0);
        x = new ThreadWinder();
        due.is("a whole thread, and too little", performed(x, "c9,n"), NOT_POSSIBLE);
        due.is("the knot length of the text", performed(x, "k50,c49,n"), NOT_POSSIBLE);
        due.is("stopped()", x.stopped(), 2);
        due.is("a shorter one", performed(x, "c9,k9,n"), 3);
    }

    private static void performLooksAtFaultsFirst() {
        due.about("promise 9: the fault before NOT_POSSIBLE");
        ThreadWinder x = new ThreadWinder();
        x.cone(1);
        due.is("a stop, but a fault behind it", performed(x, "n,n,x"), -104);
        due.is("stopped()", x.stopped(), NONE);
        due.is("a stop, but too early an end", performed(x, "n,"), -102);
        due.is("stopped()", x.stopped(), NONE);
        due.is("the stop", performed(x, "n"), NOT_POSSIBLE);
        due.is("stopped()", x.stopped(), 0);
    }

    private static void textStays() {
        due.about("promise 9: \"the text, which stays\"");
        ThreadWinder x = new ThreadWinder();
        performed(x, "t4,t3");
        counts(x, TEXT_LENGTH, 5);
        due.is("again", x.perform(), 2);
        performed(x, "c9,n");
        counts(x, TEXT_LENGTH, 4);
        performed(x, "c9,x");
        counts(x, TEXT_LENGTH, 4);
        due.is("one more character", x.type('n'), 5);
        due.is("the fault stays too", x.perform(), -103);
    }

    private static void stoppedTellsOfTheLatest() {
        due.about("promise 10: \"NONE if none was stopped yet\"");
        ThreadWinder x = new ThreadWinder();
        due.is("at first", x.stopped(), NONE);
        x.perform();
        due.is("behind a fault", x.stopped(), NONE);
        performed(x, "n");
        due.is("behind commands that were done", x.stopped(), NONE);
        x.cone(9);
        x.knot();
        due.is("behind a knot that was not possible", x.stopped(), NONE);
        due.about("promise 10: \"the number of the command in its text, from 0\"");
        performed(x, "n");
        due.is("the first", x.stopped(), 0);
        performed(x, "t1,n,n");
        due.is("the second, not the third", x.stopped(), 1);
        performed(x, "n");
        due.is("the first again", x.stopped(), 0);
    }

    private static void stoppedStays() {
        due.about("promise 10: \"the latest stop\" stays");
        ThreadWinder x = new ThreadWinder();
        x.keep();
        performed(x, "c9,n");
        due.is("the stop", x.stopped(), 1);
        due.is("a fault", performed(x, "n,n,"), -104);
        due.is("behind a fault", x.stopped(), 1);
        due.is("done", performed(x, "t1,n,n"), 3);
        due.is("behind commands that were done", x.stopped(), 1);
        x.clearText();
        due.is("behind clearText()", x.stopped(), 1);
        x.undo();
        due.is("behind undo()", x.stopped(), 1);
        x.restore();
        due.is("behind restore()", x.stopped(), 1);
        x.wind(1);
        x.doff();
        due.is("behind doff()", x.stopped(), 1);
    }
}
