import java.util.ArrayDeque;
import java.util.Deque;
import java.util.regex.Matcher;
import java.util.regex.Pattern;

/**
 * The document once more, for comparison, by other means than the program's: the guide walks place
 * by place, states are copied as they are kept, and a regular expression finds a text's faults.
 */
final class Model {
    private static final int UNKNOWN = -1;
    private static final int BAD_VALUE = -2;
    private static final int FULL = -3;
    private static final int NOT_POSSIBLE = -4;
    private static final int NONE = -5;
    private static final int[][] RANGES = {{1, 11}, {0, 9}, {0, 5}, {5, 50}, {10, 99}};

    private static final String COMMAND = "(?:t(?:[1-9]|1[01])|d[0-9]|w[0-5]|k(?:[5-9]|[1-4][0-9]|50)"
        + "|s[1-9][0-9]|g(?:[1-9][0-9]?|[1-4][0-9]{2}|500)|n|c[1-9][0-9]{0,3})";
    private static final Pattern COMMANDS = Pattern.compile(COMMAND + "(?:," + COMMAND + ")*");

    private static final class Knotted {
        int[] height = new int[12];
        int[] knots = new int[12];
        int[] numbers = {5, 3, 0, 10, 60};
        int guide = 0;
        int direction = 1;
        int thread = 5000;
        int warmth = 0;
        int tension = 0;
        int before = -1;
        boolean broken = false;
        int turns = 0;
        int breaks = 0;
        int packages = 0;

        Knotted copy() {
            Knotted c = new Knotted();
            c.height = height.clone();
            c.knots = knots.clone();
            c.numbers = numbers.clone();
            c.guide = guide;
            c.direction = direction;
            c.thread = thread;
            c.warmth = warmth;
            c.tension = tension;
            c.before = before;
            c.broken = broken;
            c.turns = turns;
            c.breaks = breaks;
            c.packages = packages;
            return c;
        }

        int wraps() {
            int sum = 0;
            for (int h : height) {
                sum += h;
            }
            return sum;
        }

        boolean full() {
            for (int h : height) {
                if (h == 200) {
                    return true;
                }
            }
            return false;
        }

        void step() {
            guide += direction;
            if (guide == 11) {
                direction = -1;
            }
            if (guide == 0) {
                direction = 1;
            }
        }

        boolean idle() {
            return broken || thread == 0 || full();
        }

        /** One turn; whether a wrap was laid. */
        boolean turn() {
            if (idle()) {
                return false;
            }
            turns++;
            int need = 10 + height[guide];
            if (need > thread) {
                thread = 0;
                return false;
            }
            thread -= need;
            height[guide]++;
            tension = 4 * numbers[1] + warmth / 10;
            if (before >= 0) {
                tension += 2 * Math.abs(height[guide] - height[before]);
            }
            before = guide;
            warmth += numbers[1];
            warmth -= 1;
            warmth = warmth < 0 ? 0 : warmth > 300 ? 300 : warmth;
            if (tension > numbers[4]) {
                broken = true;
                breaks++;
            }
            for (int i = 0; i < numbers[0]; i++) {
                step();
            }
            if (numbers[2] != 0 && turns % (8 - numbers[2]) == 0) {
                step();
            }
            return true;
        }

        boolean ribbon(int place) {
            for (int beside = place - 1; beside <= place + 1; beside += 2) {
                if (beside >= 0 && beside < 12 && height[place] < height[beside] + 6) {
                    return false;
                }
            }
            return true;
        }

        int ribbons() {
            int sum = 0;
            for (int p = 0; p < 12; p++) {
                sum += ribbon(p) ? 1 : 0;
            }
            return sum;
        }

        int evenness() {
            int[] sorted = height.clone();
            java.util.Arrays.sort(sorted);
            return sorted[11] - sorted[0];
        }

        int setNumber(int which, int value) {
            if (which < 0 || which > 4) {
                return UNKNOWN;
            }
            if (value < RANGES[which][0] || value > RANGES[which][1]) {
                return BAD_VALUE;
            }
            if (numbers[which] == value) {
                return NONE;
            }
            int old = numbers[which];
            numbers[which] = value;
            return old;
        }

        int turns(int many) {
            if (many < 1 || many > 500) {
                return BAD_VALUE;
            }
            boolean allIdle = true;
            int laid = 0;
            for (int i = 0; i < many; i++) {
                allIdle = allIdle && idle();
                laid += turn() ? 1 : 0;
            }
            return allIdle ? NONE : laid;
        }

        int tie() {
            if (thread < numbers[3]) {
                return NOT_POSSIBLE;
            }
            if (!broken) {
                return NONE;
            }
            broken = false;
            thread -= numbers[3];
            return ++knots[before];
        }

        int newThread(int length) {
            if (length < 1 || length > 9999) {
                return BAD_VALUE;
            }
            int old = thread;
            thread = length;
            if (wraps() > 0) {
                broken = true;
            }
            return old;
        }

        int off() {
            int had = wraps();
            if (had == 0) {
                return NONE;
            }
            height = new int[12];
            knots = new int[12];
            guide = 0;
            direction = 1;
            broken = false;
            before = -1;
            tension = 0;
            packages++;
            return had;
        }
    }

    private Knotted it = new Knotted();
    private final Deque<Knotted> past = new ArrayDeque<>();
    private Knotted kept = null;
    private final StringBuilder text = new StringBuilder();
    private int stop = NONE;

    private int act(Knotted next, int answer) {
        if (answer >= 0) {
            past.addLast(it);
            if (past.size() > 4) {
                past.removeFirst();
            }
            it = next;
        }
        return answer;
    }

    int set(int which, int value) {
        Knotted next = it.copy();
        return act(next, next.setNumber(which, value));
    }

    int wind(int turns) {
        Knotted next = it.copy();
        return act(next, next.turns(turns));
    }

    int knot() {
        Knotted next = it.copy();
        return act(next, next.tie());
    }

    int cone(int length) {
        Knotted next = it.copy();
        return act(next, next.newThread(length));
    }

    int doff() {
        Knotted next = it.copy();
        return act(next, next.off());
    }

    int type(char character) {
        if (text.length() == 60) {
            return FULL;
        }
        return text.append(character).length();
    }

    int clearText() {
        int had = text.length();
        text.setLength(0);
        return had;
    }

    private int fault() {
        for (int end = 1; end <= text.length(); end++) {
            Matcher matcher = COMMANDS.matcher(text.substring(0, end));
            if (!matcher.matches() && !matcher.hitEnd()) {
                return end - 1;
            }
        }
        return COMMANDS.matcher(text).matches() ? -1 : text.length();
    }

    int perform() {
        int fault = fault();
        if (fault >= 0) {
            return -100 - fault;
        }
        Knotted next = it.copy();
        String[] commands = text.toString().split(",");
        for (int i = 0; i < commands.length; i++) {
            char letter = commands[i].charAt(0);
            int number = letter == 'n' ? 0 : Integer.parseInt(commands[i].substring(1));
            int answer = letter == 'n' ? next.tie()
                : letter == 'g' ? next.turns(number)
                : letter == 'c' ? next.newThread(number)
                : next.setNumber("tdwks".indexOf(letter), number);
            if (answer != NONE && answer < 0) {
                stop = i;
                return NOT_POSSIBLE;
            }
        }
        return act(next, commands.length);
    }

    int stopped() {
        return stop;
    }

    int undo() {
        if (past.isEmpty()) {
            return NONE;
        }
        it = past.removeLast();
        return past.size();
    }

    int keep() {
        kept = it.copy();
        return it.wraps();
    }

    int restore() {
        return kept == null ? NONE : act(kept.copy(), kept.wraps());
    }

    int place(int place, int what) {
        if (place < 0 || place > 11) {
            return UNKNOWN;
        }
        int[] told = {it.height[place], it.knots[place], it.ribbon(place) ? 1 : 0,
            it.knots[place] >= 3 ? 1 : 0};
        return what < 0 || what > 3 ? BAD_VALUE : told[what];
    }

    int wrong() {
        boolean bad = false;
        for (int knots : it.knots) {
            bad |= knots >= 3;
        }
        return it.broken ? 1 : it.thread == 0 ? 2 : bad ? 3 : it.ribbons() > 0 ? 4
            : it.evenness() >= 10 ? 5 : 0;
    }

    int breaksIn() {
        if (it.broken || it.thread == 0) {
            return NOT_POSSIBLE;
        }
        Knotted next = it.copy();
        for (int turn = 1; turn <= 1000; turn++) {
            next.turn();
            if (next.broken) {
                return turn;
            }
        }
        return NONE;
    }

    int ifTraverse(int traverse, int turns, int what) {
        if (traverse < 1 || traverse > 11 || turns < 1 || turns > 500 || what < 0 || what > 2) {
            return BAD_VALUE;
        }
        Knotted other = new Knotted();
        other.numbers[0] = traverse;
        other.numbers[2] = it.numbers[2];
        for (int turn = 0; turn < turns; turn++) {
            other.thread = 1000;
            other.turn();
            other.broken = false;
        }
        int bare = 0;
        for (int h : other.height) {
            bare += h == 0 ? 1 : 0;
        }
        return what == 0 ? other.evenness() : what == 1 ? other.ribbons() : bare;
    }

    int bestTraverse(int turns) {
        if (turns < 1 || turns > 500) {
            return BAD_VALUE;
        }
        int best = 11;
        for (int traverse = 10; traverse >= 1; traverse--) {
            if (ifTraverse(traverse, turns, 0) <= ifTraverse(best, turns, 0)) {
                best = traverse;
            }
        }
        return best;
    }

    int period(int traverse) {
        if (traverse < 1 || traverse > 11) {
            return BAD_VALUE;
        }
        Knotted walk = new Knotted();
        for (int turns = 1; true; turns++) {
            for (int i = 0; i < traverse; i++) {
                walk.step();
            }
            if (walk.guide == 0 && walk.direction == 1) {
                return turns;
            }
        }
    }

    int count(int what) {
        int knots = 0;
        for (int k : it.knots) {
            knots += k;
        }
        int[] told = {it.wraps(), it.thread, it.guide, it.direction < 0 ? 1 : 0, it.warmth, it.tension,
            it.broken ? 1 : 0, it.thread == 0 ? 1 : 0, it.full() ? 1 : 0, it.evenness(), it.ribbons(),
            knots, it.turns, it.breaks, it.packages, past.size(), text.length(), BAD_VALUE, BAD_VALUE,
            BAD_VALUE, it.numbers[0], it.numbers[1], it.numbers[2], it.numbers[3], it.numbers[4]};
        return what < 0 || what >= told.length ? BAD_VALUE : told[what];
    }
}
