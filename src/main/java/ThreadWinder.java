import java.util.Arrays;

/**
 * A winder of thread: a package that turns, a guide that goes to and fro along it, and thread that
 * is laid on it in wraps, with knots, commands that are read from a text, undo and a snapshot.
 *
 * <p>Nothing is made after the constructor: every state that a call needs is copied into one of
 * those that stand here, so that long runs stay small.
 */
public final class ThreadWinder {
    /** There is no such number or place. */
    public static final int UNKNOWN = -1;

    /** Another argument is out of range. */
    public static final int BAD_VALUE = -2;

    /** There is no more room. */
    public static final int FULL = -3;

    /** This is not possible. */
    public static final int NOT_POSSIBLE = -4;

    /** There is no such thing; not an error. */
    public static final int NONE = -5;

    private static final int PLACES = 12;
    private static final int LAST_PLACE = PLACES - 1;
    private static final int NO_PLACE = -1;
    private static final int THERE_AND_BACK = 2 * LAST_PLACE;
    private static final int FULL_HEIGHT = 200;
    private static final int RIBBON_HEIGHT = 6;
    private static final int MOST_KNOTS = 2;
    private static final int UNEVEN = 10;

    private static final int FIRST_CONE = 5000;
    private static final int CORE_LENGTH = 10;
    private static final int TENSION_PER_DISC = 4;
    private static final int TENSION_PER_STEP = 2;
    private static final int WARMTH_PER_TENSION = 10;
    private static final int MOST_WARMTH = 300;
    private static final int WOBBLE_BASE = 8;

    private static final int TEXT_ROOM = 60;
    private static final int HISTORY_ROOM = 4;
    private static final int LOOK_AHEAD = 1000;
    private static final int NO_FAULT = -1;
    private static final int FAULT_BASE = -100;

    // The numbers, and behind them what else a command may be: the ranges below go by these.
    private static final int TRAVERSE = 0;
    private static final int DISCS = 1;
    private static final int WOBBLE = 2;
    private static final int KNOT_LENGTH = 3;
    private static final int STRENGTH = 4;
    private static final int WINDING = 5;
    private static final int NEW_CONE = 6;
    private static final int KNOTTING = 7;
    private static final int NO_COMMAND = -1;

    private static final int[] FIRST_NUMBERS = {5, 3, 0, 10, 60};
    private static final int[] LOWEST = {1, 0, 0, 5, 10, 1, 1};
    private static final int[] HIGHEST = {11, 9, 5, 50, 99, 500, 9999};

    private final State now = new State();
    private final State trial = new State();
    private final State snapshot = new State();
    private final Wraps imagined = new Wraps();
    private final History history = new History();
    private final CommandText text = new CommandText();
    private boolean snapshotTaken = false;
    private int latestStop = NONE;

    /** Creates an empty package, and a cone of 5000. */
    public ThreadWinder() {
    }

    // ---- numbers, winding

    /** Sets a number; returns the previous one, UNKNOWN, BAD_VALUE, or NONE if it is so already. */
    public int set(int which, int value) {
        trial.copyFrom(now);
        return finishAct(trial.changeNumber(which, value));
    }

    /** Winds; returns how many wraps are laid, BAD_VALUE, or NONE if all turns would be idle. */
    public int wind(int turns) {
        trial.copyFrom(now);
        return finishAct(trial.turnOften(turns));
    }

    /** Knots a broken thread; returns the knots of the place then, NOT_POSSIBLE or NONE. */
    public int knot() {
        trial.copyFrom(now);
        return finishAct(trial.tieKnot());
    }

    /** Puts a new cone on; returns what was left of the old one, or BAD_VALUE. */
    public int cone(int length) {
        trial.copyFrom(now);
        return finishAct(trial.changeCone(length));
    }

    /** Takes the package off; returns how many wraps it had, or NONE if it had none. */
    public int doff() {
        trial.copyFrom(now);
        return finishAct(trial.takePackageOff());
    }

    // ---- texts

    /** Types a character behind the text; returns the length of the text then, or FULL. */
    public int type(char character) {
        return text.append(character);
    }

    /** Empties the text; returns the length that it had. */
    public int clearText() {
        return text.empty();
    }

    /** Does the commands of the text, all or none; returns how many, or what hinders it. */
    public int perform() {
        int fault = text.read();
        if (fault != NO_FAULT) {
            return FAULT_BASE - fault;
        }
        trial.copyFrom(now);
        for (int i = 0; i < text.commands; i++) {
            int answer = trial.obey(text.commandAt(i), text.valueAt(i));
            if (answer < 0 && answer != NONE) {
                latestStop = i;
                return NOT_POSSIBLE;
            }
        }
        return finishAct(text.commands);
    }

    /** Returns the number of the command that stopped perform() latest, or NONE. */
    public int stopped() {
        return latestStop;
    }

    // ---- history

    /** Goes back to the latest state of the history; returns how many are left, or NONE. */
    public int undo() {
        return history.takeLatest(now);
    }

    /** Takes a snapshot of the state; returns the wraps of the package. */
    public int keep() {
        snapshot.copyFrom(now);
        snapshotTaken = true;
        return now.wraps.laid;
    }

    /** Goes back to the snapshot; returns the wraps of the package then, or NONE without one. */
    public int restore() {
        if (!snapshotTaken) {
            return NONE;
        }
        trial.copyFrom(snapshot);
        return finishAct(trial.wraps.laid);
    }

    // ---- what is told

    /** Tells of a place its height, its knots, whether it is a ribbon, and whether it is bad. */
    public int place(int place, int what) {
        if (place < 0 || place >= PLACES) {
            return UNKNOWN;
        }
        switch (what) {
            case 0:
                return now.wraps.heightAt(place);
            case 1:
                return now.knotsAt(place);
            case 2:
                return oneIf(now.wraps.isRibbon(place));
            case 3:
                return oneIf(now.isBad(place));
            default:
                return BAD_VALUE;
        }
    }

    /** Tells what is wrong with the package, the first thing that is; 0 if nothing is. */
    public int wrong() {
        if (now.broken) {
            return 1;
        }
        if (now.isConeEmpty()) {
            return 2;
        }
        if (now.hasBadPlace()) {
            return 3;
        }
        if (now.wraps.ribbons() > 0) {
            return 4;
        }
        return now.wraps.evenness() >= UNEVEN ? 5 : 0;
    }

    /** Tells in how many turns, up to 1000, the thread would break; NOT_POSSIBLE or NONE. */
    public int breaksIn() {
        if (now.broken || now.isConeEmpty()) {
            return NOT_POSSIBLE;
        }
        trial.copyFrom(now);
        for (int turn = 1; turn <= LOOK_AHEAD && !trial.isIdle(); turn++) {
            trial.turnOnce();
            if (trial.broken) {
                return turn;
            }
        }
        return NONE;
    }

    /** Tells what a traverse would bring: the evenness, the ribbons, or the places left bare. */
    public int ifTraverse(int traverse, int turns, int what) {
        if (!inRange(TRAVERSE, traverse) || !inRange(WINDING, turns)) {
            return BAD_VALUE;
        }
        imagine(traverse, turns);
        switch (what) {
            case 0:
                return imagined.evenness();
            case 1:
                return imagined.ribbons();
            case 2:
                return imagined.barePlaces();
            default:
                return BAD_VALUE;
        }
    }

    /** Finds the traverse with the least evenness, the lowest one of several; or BAD_VALUE. */
    public int bestTraverse(int turns) {
        if (!inRange(WINDING, turns)) {
            return BAD_VALUE;
        }
        int best = 0;
        int least = 0;
        for (int traverse = lowest(TRAVERSE); traverse <= highest(TRAVERSE); traverse++) {
            imagine(traverse, turns);
            int evenness = imagined.evenness();
            if (best == 0 || evenness < least) {
                best = traverse;
                least = evenness;
            }
        }
        return best;
    }

    /** Tells after how many turns the guide is where it began, going the same way. */
    public int period(int traverse) {
        if (!inRange(TRAVERSE, traverse)) {
            return BAD_VALUE;
        }
        int turns = 1;
        while (turns < THERE_AND_BACK && turns * traverse % THERE_AND_BACK != 0) {
            turns++;
        }
        return turns;
    }

    /** Tells one of the numbers of the whole winder; or BAD_VALUE. */
    public int count(int what) {
        switch (what) {
            case 0:
                return now.wraps.laid;
            case 1:
                return now.coneLeft;
            case 2:
                return now.wraps.guidePlace();
            case 3:
                return oneIf(now.wraps.guideGoesBack());
            case 4:
                return now.warmth;
            case 5:
                return now.lastTension;
            case 6:
                return oneIf(now.broken);
            case 7:
                return oneIf(now.isConeEmpty());
            case 8:
                return oneIf(now.wraps.isFull());
            case 9:
                return now.wraps.evenness();
            case 10:
                return now.wraps.ribbons();
            case 11:
                return now.allKnots();
            case 12:
                return now.turnsDone;
            case 13:
                return now.breaks;
            case 14:
                return now.packagesOff;
            case 15:
                return history.kept;
            case 16:
                return text.length;
            case 20:
            case 21:
            case 22:
            case 23:
            case 24:
                return now.number(what - 20);
            default:
                return BAD_VALUE;
        }
    }

    /** Lets the trial state become the state, unless its act came to an error or to NONE. */
    private int finishAct(int answer) {
        if (answer >= 0) {
            history.remember(now);
            now.copyFrom(trial);
        }
        return answer;
    }

    private void imagine(int traverse, int turns) {
        imagined.clear();
        for (int turn = 1; turn <= turns && !imagined.isFull(); turn++) {
            imagined.layWrap();
            imagined.moveGuide(traverse, now.number(WOBBLE), turn);
        }
    }

    private static int oneIf(boolean so) {
        return so ? 1 : 0;
    }

    private static int lowest(int which) {
        return which >= 0 && which < LOWEST.length ? LOWEST[which] : 0;
    }

    private static int highest(int which) {
        // Behind the table nothing is in range: the lowest one there is 0.
        return which >= 0 && which < HIGHEST.length ? HIGHEST[which] : -1;
    }

    private static boolean inRange(int which, int value) {
        return value >= lowest(which) && value <= highest(which);
    }

    /** The wraps on a package, and the guide that says where the next one is laid. */
    private static final class Wraps {
        private final int[] heights = new int[PLACES];
        private int laid = 0;
        private int tallest = 0;

        // How far the guide is on its way from 0 to 11 and back. Unfolded like this, a move is a
        // sum, and the turn at an end needs no case of its own: 11 goes back, 0 goes forth.
        private int way = 0;

        private Wraps() {
        }

        private void copyFrom(Wraps other) {
            System.arraycopy(other.heights, 0, heights, 0, PLACES);
            laid = other.laid;
            tallest = other.tallest;
            way = other.way;
        }

        private void clear() {
            Arrays.fill(heights, 0);
            laid = 0;
            tallest = 0;
            way = 0;
        }

        private int guidePlace() {
            return way <= LAST_PLACE ? way : THERE_AND_BACK - way;
        }

        private boolean guideGoesBack() {
            return way >= LAST_PLACE;
        }

        private void moveGuide(int traverse, int wobble, int turn) {
            int every = WOBBLE_BASE - wobble;
            boolean wobbles = wobble > 0 && every > 0 && turn % every == 0;
            way = (way + traverse + oneIf(wobbles)) % THERE_AND_BACK;
        }

        private void layWrap() {
            int at = guidePlace();
            if (at >= 0 && at < heights.length) {
                heights[at]++;
                laid++;
                tallest = Math.max(tallest, heights[at]);
            }
        }

        private int heightAt(int at) {
            return at >= 0 && at < heights.length ? heights[at] : 0;
        }

        private boolean isFull() {
            return tallest >= FULL_HEIGHT;
        }

        private int evenness() {
            int least = tallest;
            for (int height : heights) {
                least = Math.min(least, height);
            }
            return tallest - least;
        }

        private boolean isRibbon(int at) {
            boolean overLower = at == 0 || isRibbonOver(at, at - 1);
            boolean overUpper = at == LAST_PLACE || isRibbonOver(at, at + 1);
            return overLower && overUpper;
        }

        private boolean isRibbonOver(int at, int beside) {
            return heightAt(at) - heightAt(beside) >= RIBBON_HEIGHT;
        }

        private int ribbons() {
            int found = 0;
            for (int at = 0; at < PLACES; at++) {
                found += oneIf(isRibbon(at));
            }
            return found;
        }

        private int barePlaces() {
            int found = 0;
            for (int height : heights) {
                found += oneIf(height == 0);
            }
            return found;
        }
    }

    /** All that undo() and restore() bring back. Its acts answer as the public ones do. */
    private static final class State {
        private final Wraps wraps = new Wraps();
        private final int[] knots = new int[PLACES];
        private final int[] numbers = FIRST_NUMBERS.clone();
        private int coneLeft = FIRST_CONE;
        private int warmth = 0;
        private boolean broken = false;
        private int lastPlace = NO_PLACE;
        private int lastTension = 0;
        private int turnsDone = 0;
        private int breaks = 0;
        private int packagesOff = 0;

        private State() {
        }

        private void copyFrom(State other) {
            wraps.copyFrom(other.wraps);
            System.arraycopy(other.knots, 0, knots, 0, PLACES);
            System.arraycopy(other.numbers, 0, numbers, 0, FIRST_NUMBERS.length);
            coneLeft = other.coneLeft;
            warmth = other.warmth;
            broken = other.broken;
            lastPlace = other.lastPlace;
            lastTension = other.lastTension;
            turnsDone = other.turnsDone;
            breaks = other.breaks;
            packagesOff = other.packagesOff;
        }

        private int obey(int command, int value) {
            switch (command) {
                case WINDING:
                    return turnOften(value);
                case NEW_CONE:
                    return changeCone(value);
                case KNOTTING:
                    return tieKnot();
                default:
                    return changeNumber(command, value);
            }
        }

        private int changeNumber(int which, int value) {
            if (which < 0 || which >= numbers.length) {
                return UNKNOWN;
            }
            if (!inRange(which, value)) {
                return BAD_VALUE;
            }
            int previous = numbers[which];
            if (previous == value) {
                return NONE;
            }
            numbers[which] = value;
            return previous;
        }

        private int turnOften(int turns) {
            if (!inRange(WINDING, turns)) {
                return BAD_VALUE;
            }
            if (isIdle()) {
                return NONE;
            }
            int laidBefore = wraps.laid;
            for (int turn = 0; turn < turns && !isIdle(); turn++) {
                turnOnce();
            }
            return wraps.laid - laidBefore;
        }

        private void turnOnce() {
            if (isIdle()) {
                return;
            }
            turnsDone++;
            int at = wraps.guidePlace();
            int length = CORE_LENGTH + wraps.heightAt(at);
            if (coneLeft < length) {
                coneLeft = 0;
                return;
            }
            coneLeft -= length;
            wraps.layWrap();
            lastTension = tensionAt(at);
            lastPlace = at;
            warmDiscs();
            if (lastTension > number(STRENGTH)) {
                broken = true;
                breaks++;
            }
            wraps.moveGuide(number(TRAVERSE), number(WOBBLE), turnsDone);
        }

        private int tensionAt(int at) {
            int tension = TENSION_PER_DISC * number(DISCS) + warmth / WARMTH_PER_TENSION;
            if (lastPlace == NO_PLACE) {
                return tension;
            }
            int step = Math.abs(wraps.heightAt(at) - wraps.heightAt(lastPlace));
            return tension + TENSION_PER_STEP * step;
        }

        private void warmDiscs() {
            warmth = Math.max(0, Math.min(MOST_WARMTH, warmth + number(DISCS) - 1));
        }

        private int tieKnot() {
            int length = number(KNOT_LENGTH);
            if (coneLeft < length) {
                return NOT_POSSIBLE;
            }
            // A broken thread has a last wrap; the places are looked at for the index alone.
            if (!broken || lastPlace < 0 || lastPlace >= knots.length) {
                return NONE;
            }
            coneLeft -= length;
            broken = false;
            knots[lastPlace]++;
            return knots[lastPlace];
        }

        private int changeCone(int length) {
            if (!inRange(NEW_CONE, length)) {
                return BAD_VALUE;
            }
            int left = coneLeft;
            coneLeft = length;
            broken = wraps.laid > 0;
            return left;
        }

        private int takePackageOff() {
            int laid = wraps.laid;
            if (laid == 0) {
                return NONE;
            }
            wraps.clear();
            Arrays.fill(knots, 0);
            broken = false;
            lastPlace = NO_PLACE;
            lastTension = 0;
            packagesOff++;
            return laid;
        }

        private boolean isIdle() {
            return broken || isConeEmpty() || wraps.isFull();
        }

        private boolean isConeEmpty() {
            return coneLeft == 0;
        }

        private int number(int which) {
            return which >= 0 && which < numbers.length ? numbers[which] : 0;
        }

        private int knotsAt(int at) {
            return at >= 0 && at < knots.length ? knots[at] : 0;
        }

        private boolean isBad(int at) {
            return knotsAt(at) > MOST_KNOTS;
        }

        private boolean hasBadPlace() {
            boolean found = false;
            for (int at = 0; at < PLACES; at++) {
                found = found || isBad(at);
            }
            return found;
        }

        private int allKnots() {
            int sum = 0;
            for (int tied : knots) {
                sum += tied;
            }
            return sum;
        }
    }

    /** The states that undo() goes back to, in a ring, so that the oldest one makes room. */
    private static final class History {
        private final State[] states = new State[HISTORY_ROOM];
        private int next = 0;
        private int kept = 0;

        private History() {
            for (int i = 0; i < states.length; i++) {
                states[i] = new State();
            }
        }

        private void remember(State state) {
            State room = stateAt(next);
            if (room != null) {
                room.copyFrom(state);
                next = (next + 1) % HISTORY_ROOM;
                kept = Math.min(kept + 1, HISTORY_ROOM);
            }
        }

        private int takeLatest(State state) {
            int latest = (next + HISTORY_ROOM - 1) % HISTORY_ROOM;
            State found = stateAt(latest);
            if (kept == 0 || found == null) {
                return NONE;
            }
            state.copyFrom(found);
            next = latest;
            kept--;
            return kept;
        }

        private State stateAt(int index) {
            return index >= 0 && index < states.length ? states[index] : null;
        }
    }

    /** The text, and the commands that its latest reading found in it. */
    private static final class CommandText {
        private static final int NO_DIGIT = -1;

        // An array, as any character may be typed, and a String may not hold all of them.
        private final char[] characters = new char[TEXT_ROOM];
        private final int[] kinds = new int[TEXT_ROOM];
        private final int[] values = new int[TEXT_ROOM];
        private int length = 0;
        private int commands = 0;

        // The command that is being read: its letter may be still to come, and its digits too.
        private int kind = NO_COMMAND;
        private int value = NO_DIGIT;

        private CommandText() {
        }

        private int append(char character) {
            if (length < 0 || length >= characters.length) {
                return FULL;
            }
            characters[length] = character;
            length++;
            return length;
        }

        private int empty() {
            int had = length;
            length = 0;
            return had;
        }

        /** Reads the commands; returns the fault of the text, or NO_FAULT. */
        private int read() {
            commands = 0;
            kind = NO_COMMAND;
            value = NO_DIGIT;
            for (int i = 0; i < length && i < characters.length; i++) {
                if (!takes(characters[i])) {
                    return i;
                }
            }
            if (!isComplete()) {
                return length;
            }
            addCommand();
            return NO_FAULT;
        }

        private boolean takes(char character) {
            if (kind == NO_COMMAND) {
                kind = kindOf(character);
                return kind != NO_COMMAND;
            }
            if (character == ',' && isComplete()) {
                addCommand();
                return true;
            }
            return character >= '0' && character <= '9' && takesDigit(character - '0');
        }

        private boolean takesDigit(int digit) {
            if (kind == KNOTTING || value == 0) {
                return false;
            }
            int longer = value == NO_DIGIT ? digit : 10 * value + digit;
            boolean zeroFits = longer > 0 || lowest(kind) == 0;
            if (!zeroFits || longer > highest(kind)) {
                return false;
            }
            value = longer;
            return true;
        }

        private boolean isComplete() {
            return kind == KNOTTING || (kind != NO_COMMAND && value >= lowest(kind));
        }

        private void addCommand() {
            if (commands >= 0 && commands < kinds.length && commands < values.length) {
                kinds[commands] = kind;
                values[commands] = value;
                commands++;
            }
            kind = NO_COMMAND;
            value = NO_DIGIT;
        }

        private int commandAt(int index) {
            return index >= 0 && index < kinds.length ? kinds[index] : NO_COMMAND;
        }

        private int valueAt(int index) {
            return index >= 0 && index < values.length ? values[index] : NO_DIGIT;
        }

        private static int kindOf(char letter) {
            switch (letter) {
                case 't':
                    return TRAVERSE;
                case 'd':
                    return DISCS;
                case 'w':
                    return WOBBLE;
                case 'k':
                    return KNOT_LENGTH;
                case 's':
                    return STRENGTH;
                case 'g':
                    return WINDING;
                case 'c':
                    return NEW_CONE;
                case 'n':
                    return KNOTTING;
                default:
                    return NO_COMMAND;
            }
        }
    }
}
