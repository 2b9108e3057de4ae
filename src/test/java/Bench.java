import java.util.Arrays;
import java.util.function.Consumer;
import java.util.function.ToIntFunction;

/**
 * What the tests of the edges stand on: names for the numbers of the face, winders that are brought
 * to an edge, and twins: two winders made alike, of which one takes a call that must not be seen.
 */
abstract class Bench {
    static final int UNKNOWN = ThreadWinder.UNKNOWN;
    static final int BAD_VALUE = ThreadWinder.BAD_VALUE;
    static final int FULL = ThreadWinder.FULL;
    static final int NOT_POSSIBLE = ThreadWinder.NOT_POSSIBLE;
    static final int NONE = ThreadWinder.NONE;

    static final int TRAVERSE = 0;
    static final int DISCS = 1;
    static final int WOBBLE = 2;
    static final int KNOT_LENGTH = 3;
    static final int STRENGTH = 4;
    static final int[] LOWEST = {1, 0, 0, 5, 10};
    static final int[] HIGHEST = {11, 9, 5, 50, 99};
    static final int[] FIRST = {5, 3, 0, 10, 60};

    static final int WRAPS = 0;
    static final int LEFT = 1;
    static final int GUIDE = 2;
    static final int GOES_BACK = 3;
    static final int WARMTH = 4;
    static final int TENSION = 5;
    static final int BROKEN = 6;
    static final int CONE_EMPTY = 7;
    static final int PACKAGE_FULL = 8;
    static final int EVENNESS = 9;
    static final int RIBBONS = 10;
    static final int ALL_KNOTS = 11;
    static final int TURNS = 12;
    static final int BREAKS = 13;
    static final int PACKAGES = 14;
    static final int STATES = 15;
    static final int TEXT_LENGTH = 16;
    static final int NUMBERS = 20;

    static final int HEIGHT = 0;
    static final int KNOTS = 1;
    static final int RIBBON = 2;
    static final int BAD = 3;

    static final int MIN = Integer.MIN_VALUE;
    static final int MAX = Integer.MAX_VALUE;

    static final Due due = new Due();

    static void counts(ThreadWinder x, int what, int want) {
        due.is("count(" + what + ")", x.count(what), want);
    }

    static void places(ThreadWinder x, int what, int... want) {
        for (int place = 0; place < want.length; place++) {
            due.is("place(" + place + ", " + what + ")", x.place(place, what), want[place]);
        }
    }

    static int write(ThreadWinder x, String text) {
        x.clearText();
        for (int i = 0; i < text.length(); i++) {
            x.type(text.charAt(i));
        }
        return x.count(TEXT_LENGTH);
    }

    static int performed(ThreadWinder x, String text) {
        write(x, text);
        return x.perform();
    }

    /** A new winder whose thread does not break by itself: no discs, and the greatest strength. */
    static ThreadWinder strong() {
        ThreadWinder x = new ThreadWinder();
        strengthen(x);
        return x;
    }

    static void strengthen(ThreadWinder x) {
        x.set(DISCS, 0);
        x.set(STRENGTH, 99);
    }

    /** One turn with this traverse. */
    static void step(ThreadWinder x, int traverse) {
        x.set(TRAVERSE, traverse);
        x.wind(1);
    }

    /** A strong winder whose guide stands at a place, going forth or back. */
    static ThreadWinder guideAt(int place, boolean back) {
        ThreadWinder x = strong();
        if (place == 11 || (back && place > 0)) {
            step(x, 11);
        }
        if (place > 0 && place < 11) {
            step(x, back ? 11 - place : place);
        }
        due.is("guide of the bench", x.count(GUIDE), place);
        return x;
    }

    private static int placeOf(int way) {
        return way <= 11 ? way : 22 - way;
    }

    private static int go(ThreadWinder x, int way, int place, boolean[] free) {
        for (int far = 1; far <= 22; far++) {
            int there = (way + far) % 22;
            if (placeOf(there) != place) {
                continue;
            }
            if (far <= 11) {
                step(x, far);
                return there;
            }
            for (int near = far - 11; near <= 11; near++) {
                if (free[placeOf((way + near) % 22)]) {
                    step(x, near);
                    step(x, far - near);
                    return there;
                }
            }
        }
        throw new IllegalStateException("no way to " + place);
    }

    /** Lays wraps at these places of a new package, with others between at places that are free. */
    static void lay(ThreadWinder x, int[] places, boolean[] free) {
        int way = 0;
        for (int i = 0; i < places.length; i++) {
            boolean standsThere = i == 0 && places[i] == 0;
            way = standsThere ? way : go(x, way, places[i], free);
        }
        x.wind(1);
    }

    /** Winds until the package has so many wraps, with a new cone where one is used up. */
    static void windTo(ThreadWinder x, int wraps) {
        for (int i = 0; i < 40 && x.count(WRAPS) < wraps; i++) {
            if (x.count(CONE_EMPTY) == 1) {
                x.cone(9999);
                x.knot();
            }
            x.wind(wraps - x.count(WRAPS));
        }
        due.is("wraps of the bench", x.count(WRAPS), wraps);
    }

    /** Winds a strong winder until the discs have this warmth; they are none again then. */
    static ThreadWinder warm(int warmth) {
        ThreadWinder x = strong();
        if (warmth >= 8) {
            x.set(DISCS, 9);
            x.wind(warmth / 8);
        }
        if (warmth % 8 > 0) {
            x.set(DISCS, 2);
            x.wind(warmth % 8);
        }
        x.set(DISCS, 0);
        due.is("warmth of the bench", x.count(WARMTH), warmth);
        return x;
    }

    /** Something of everything: wraps, knots, a text, a snapshot, two breaks, a full history. */
    static void busy(ThreadWinder x) {
        x.set(TRAVERSE, 7);
        x.wind(20);
        x.keep();
        x.doff();
        x.set(STRENGTH, 14);
        x.wind(50);
        x.knot();
        x.wind(50);
        x.set(STRENGTH, 80);
        x.knot();
        x.wind(9);
        write(x, "d4");
    }

    /** Puts a cone on, and knots, so that this length is left on it; 0 as well. */
    static void leave(ThreadWinder x, int length) {
        x.set(KNOT_LENGTH, 5);
        boolean bare = x.count(WRAPS) == 0;
        if (bare && length == 0) {
            x.cone(1);
            x.wind(1);
            due.is("left on the bench", x.count(LEFT), 0);
            return;
        }
        x.cone(bare ? length : length + 5);
        x.knot();
        due.is("left on the bench", x.count(LEFT), length);
    }

    private static int[] numbersOf(ThreadWinder x) {
        int[] told = new int[46];
        int n = 0;
        for (int what = WRAPS; what <= TEXT_LENGTH; what++) {
            told[n++] = x.count(what);
        }
        for (int which = 0; which < 5; which++) {
            told[n++] = x.count(NUMBERS + which);
        }
        for (int place = 0; place < 12; place++) {
            told[n++] = x.place(place, HEIGHT);
            told[n++] = x.place(place, KNOTS);
        }
        return told;
    }

    private static int[] judgedOf(ThreadWinder x) {
        int[] told = new int[27];
        int n = 0;
        for (int place = 0; place < 12; place++) {
            told[n++] = x.place(place, RIBBON);
            told[n++] = x.place(place, BAD);
        }
        told[n++] = x.wrong();
        told[n++] = x.breaksIn();
        told[n++] = x.stopped();
        return told;
    }

    private static void sameRow(String what, int[] a, int[] b) {
        due.holds(what + ": " + Arrays.toString(a) + " and " + Arrays.toString(b), Arrays.equals(a, b));
    }

    /** Two winders tell the same, of themselves, their texts, histories and snapshots; some 360 calls. */
    static void alike(String what, ThreadWinder a, ThreadWinder b) {
        sameRow(what + ", told", numbersOf(a), numbersOf(b));
        sameRow(what + ", judged", judgedOf(a), judgedOf(b));
        for (int i = 1; i <= 5; i++) {
            due.is(what + ", undo() " + i, a.undo(), b.undo());
            sameRow(what + ", behind undo() " + i, numbersOf(a), numbersOf(b));
        }
        due.is(what + ", restore()", a.restore(), b.restore());
        sameRow(what + ", behind restore()", numbersOf(a), numbersOf(b));
        due.is(what + ", perform()", a.perform(), b.perform());
        due.is(what + ", turn", a.wind(1), b.wind(1));
        due.is(what + ", tension", a.count(TENSION), b.count(TENSION));
        due.is(what + ", knot", a.knot(), b.knot());
    }

    /** A call answers as is due, and leaves all as it was. */
    static void unchanged(String call, Consumer<ThreadWinder> before, ToIntFunction<ThreadWinder> taken,
            int want) {
        ThreadWinder tried = new ThreadWinder();
        ThreadWinder twin = new ThreadWinder();
        before.accept(tried);
        before.accept(twin);
        due.is(call, taken.applyAsInt(tried), want);
        alike(call, tried, twin);
    }
}
