import java.util.Arrays;

/**
 * An overlay of nodes that share keys in the manner of Chord. The comments name the terms of
 * ../shared/DOC.md; (a, b] and (a, b) are the document's stretches of the circle.
 */
public final class ChordOverlay {
    private static final int IDENTIFIERS = 64;
    private static final int SUCCESSORS = 3;
    private static final int FINGERS = 6;
    private static final int NONE = -1;
    private static final int HIGHEST_VALUE = 999;
    private static final int MOST_ROUNDS = 20;
    private static final int MOST_ROUNDS_AHEAD = 30;

    private final boolean[] lives = new boolean[IDENTIFIERS];
    private final Table successors = new Table(SUCCESSORS);
    private final Table predecessors = new Table(1);
    private final Table fingers = new Table(FINGERS);
    private final Table values = new Table(IDENTIFIERS);
    private final Table stamps = new Table(IDENTIFIERS);
    private int lastStamp = 0;

    // The nodes of the lookup that went last, from its first node on. One row serves every lookup,
    // since what a run of calls may make is counted.
    private final int[] route = new int[IDENTIFIERS];
    private int routeHops = 0;

    // Where roundsToRight lays the pointers aside, made once for the same reason.
    private final Table asideSuccessors = new Table(SUCCESSORS);
    private final Table asidePredecessors = new Table(1);
    private final Table asideFingers = new Table(FINGERS);

    public ChordOverlay() {
    }

    // ---- nodes that come and go

    public int create(int node) throws IllegalArgumentException, IllegalStateException {
        requireIdentifier(node);
        if (countLiving() > 0) {
            throw new IllegalStateException("a node lives already");
        }
        beginLife(node, node, node, node);
        return countLiving();
    }

    public int join(int node, int via) throws IllegalArgumentException, IllegalStateException {
        requireIdentifier(node);
        requireIdentifier(via);
        if (isAlive(node)) {
            throw new IllegalStateException("the node lives already");
        }
        requireAlive(via);
        int first = find(via, node);
        beginLife(node, first, successors.at(first, 0), successors.at(first, 1));
        return first;
    }

    public int fail(int node) throws IllegalArgumentException, IllegalStateException {
        requireIdentifier(node);
        requireAlive(node);
        endLife(node);
        return countLiving();
    }

    public int leave(int node) throws IllegalArgumentException, IllegalStateException {
        requireIdentifier(node);
        requireAlive(node);
        int next = firstLivingSuccessor(node);
        if (next != node) {
            handOver(node, next);
        }
        endLife(node);
        return countLiving();
    }

    public int living() {
        return countLiving();
    }

    public boolean isLiving(int node) throws IllegalArgumentException {
        requireIdentifier(node);
        return isAlive(node);
    }

    // ---- what nodes know

    public int successor(int node, int place) throws IllegalArgumentException, IllegalStateException {
        requireIdentifier(node);
        requireRange(place, 0, SUCCESSORS - 1);
        requireAlive(node);
        return successors.at(node, place);
    }

    public int liveSuccessor(int node) throws IllegalArgumentException, IllegalStateException {
        requireIdentifier(node);
        requireAlive(node);
        return firstLivingSuccessor(node);
    }

    public int predecessor(int node) throws IllegalArgumentException, IllegalStateException {
        requireIdentifier(node);
        requireAlive(node);
        return predecessors.at(node, 0);
    }

    public int finger(int node, int number) throws IllegalArgumentException, IllegalStateException {
        requireIdentifier(node);
        requireRange(number, 0, FINGERS - 1);
        requireAlive(node);
        return fingers.at(node, number);
    }

    // ---- stabilization

    public boolean check(int node) throws IllegalArgumentException, IllegalStateException {
        requireIdentifier(node);
        requireAlive(node);
        dropDeadPredecessor(node);
        return predecessors.at(node, 0) != NONE;
    }

    public int stabilize(int node) throws IllegalArgumentException, IllegalStateException {
        requireIdentifier(node);
        requireAlive(node);
        mendSuccessors(node);
        return successors.at(node, 0);
    }

    public int fix(int node) throws IllegalArgumentException, IllegalStateException {
        requireIdentifier(node);
        requireAlive(node);
        return renewFingers(node);
    }

    public int replicate(int node) throws IllegalArgumentException, IllegalStateException {
        requireIdentifier(node);
        requireAlive(node);
        return spreadValues(node);
    }

    public int goRounds(int rounds) throws IllegalArgumentException {
        requireRange(rounds, 1, MOST_ROUNDS);
        for (int round = 0; round < rounds; round++) {
            letRoundGoBy(true);
        }
        return countWrongPointers();
    }

    // ---- lookups

    public int lookup(int from, int key) throws IllegalArgumentException, IllegalStateException {
        requireIdentifier(from);
        requireIdentifier(key);
        requireAlive(from);
        return find(from, key);
    }

    public int hops(int from, int key) throws IllegalArgumentException, IllegalStateException {
        requireIdentifier(from);
        requireIdentifier(key);
        requireAlive(from);
        find(from, key);
        return routeHops;
    }

    public int hopAt(int from, int key, int hop)
            throws IllegalArgumentException, IllegalStateException, IndexOutOfBoundsException {
        requireIdentifier(from);
        requireIdentifier(key);
        requireAlive(from);
        find(from, key);
        if (hop < 0 || hop > routeHops || hop >= route.length) {
            throw new IndexOutOfBoundsException("the lookup has no such hop");
        }
        return route[hop];
    }

    // ---- values

    public int put(int from, int key, int value) throws IllegalArgumentException, IllegalStateException {
        requireIdentifier(from);
        requireIdentifier(key);
        requireRange(value, 0, HIGHEST_VALUE);
        requireAlive(from);
        int found = find(from, key);
        lastStamp++;
        values.set(found, key, value);
        stamps.set(found, key, lastStamp);
        copyToHeirs(found, key);
        return found;
    }

    public int get(int from, int key) throws IllegalArgumentException, IllegalStateException {
        requireIdentifier(from);
        requireIdentifier(key);
        requireAlive(from);
        return values.at(find(from, key), key);
    }

    public int kept(int node, int key) throws IllegalArgumentException, IllegalStateException {
        requireIdentifier(node);
        requireIdentifier(key);
        requireAlive(node);
        return values.at(node, key);
    }

    public int keepers(int key) throws IllegalArgumentException {
        requireIdentifier(key);
        int count = 0;
        for (int node = 0; node < IDENTIFIERS; node++) {
            if (isAlive(node) && values.at(node, key) != NONE) {
                count++;
            }
        }
        return count;
    }

    // ---- the ring as it is

    public int owner(int key) throws IllegalArgumentException {
        requireIdentifier(key);
        return firstLivingUpFrom(key);
    }

    public int wrongPointers() {
        return countWrongPointers();
    }

    public int roundsToRight(int most) throws IllegalArgumentException {
        requireRange(most, 1, MOST_ROUNDS_AHEAD);
        layPointersAside();
        int rounds = 0;
        while (rounds <= most && countWrongPointers() > 0) {
            letRoundGoBy(false);
            rounds++;
        }
        takePointersBack();
        return rounds <= most ? rounds : NONE;
    }

    // ---- what the calls ask of their arguments

    private static void requireRange(int number, int lowest, int highest) {
        if (number < lowest || number > highest) {
            throw new IllegalArgumentException("a number is out of range");
        }
    }

    private static void requireIdentifier(int identifier) {
        requireRange(identifier, 0, IDENTIFIERS - 1);
    }

    private void requireAlive(int node) {
        if (!isAlive(node)) {
            throw new IllegalStateException("the node does not live");
        }
    }

    // ---- life

    private boolean isAlive(int node) {
        return node >= 0 && node < lives.length && lives[node];
    }

    private void setAlive(int node, boolean alive) {
        if (node >= 0 && node < lives.length) {
            lives[node] = alive;
        }
    }

    private int countLiving() {
        int count = 0;
        for (int node = 0; node < IDENTIFIERS; node++) {
            if (isAlive(node)) {
                count++;
            }
        }
        return count;
    }

    /** A node that lived before may begin anew: nothing of its former life may show. */
    private void beginLife(int node, int first, int second, int third) {
        setSuccessors(node, first, second, third);
        predecessors.clear(node);
        fingers.clear(node);
        values.clear(node);
        stamps.clear(node);
        setAlive(node, true);
    }

    private void endLife(int node) {
        setAlive(node, false);
    }

    private void handOver(int node, int next) {
        for (int key = 0; key < IDENTIFIERS; key++) {
            giveCopy(node, next, key);
        }
        int before = predecessors.at(node, 0);
        predecessors.set(next, 0, before);
        if (before != node && isAlive(before)) {
            follow(before, next);
        }
    }

    // ---- successors

    private void setSuccessors(int node, int first, int second, int third) {
        successors.set(node, 0, first);
        successors.set(node, 1, second);
        successors.set(node, 2, third);
    }

    /** The two that next knows are read before any is written, since next may be the node itself. */
    private void follow(int node, int next) {
        int second = successors.at(next, 0);
        int third = successors.at(next, 1);
        setSuccessors(node, next, second, third);
    }

    private int firstLivingSuccessor(int node) {
        for (int place = 0; place < SUCCESSORS; place++) {
            int next = successors.at(node, place);
            if (isAlive(next)) {
                return next;
            }
        }
        return node;
    }

    /** The first successor that lives, is not the node, and is not the one passed over; or NONE. */
    private int firstHeir(int node, int passedOver) {
        for (int place = 0; place < SUCCESSORS; place++) {
            int next = successors.at(node, place);
            if (isAlive(next) && next != node && next != passedOver) {
                return next;
            }
        }
        return NONE;
    }

    // ---- the steps of stabilization

    /** Without replicating it moves pointers only, and those as it would with: none depends on a value. */
    private void letRoundGoBy(boolean replicating) {
        for (int node = 0; node < IDENTIFIERS; node++) {
            if (isAlive(node)) {
                dropDeadPredecessor(node);
                mendSuccessors(node);
                renewFingers(node);
                if (replicating) {
                    spreadValues(node);
                }
            }
        }
    }

    private void dropDeadPredecessor(int node) {
        if (!isAlive(predecessors.at(node, 0))) {
            predecessors.set(node, 0, NONE);
        }
    }

    private void mendSuccessors(int node) {
        int next = firstLivingSuccessor(node);
        int between = predecessors.at(next, 0);
        if (isAlive(between) && Circle.isBetween(between, node, next)) {
            next = between;
        }
        follow(node, next);
        notifyOf(node, next);
    }

    private void notifyOf(int node, int next) {
        int before = predecessors.at(next, 0);
        if (!isAlive(before) || Circle.isBetween(node, before, next)) {
            predecessors.set(next, 0, node);
        }
    }

    /** Each finger is set before the next one is looked up, which may go over it already. */
    private int renewFingers(int node) {
        int changed = 0;
        for (int number = 0; number < FINGERS; number++) {
            int found = find(node, Circle.fingerStart(node, number));
            if (found != fingers.at(node, number)) {
                changed++;
            }
            fingers.set(node, number, found);
        }
        return changed;
    }

    private int spreadValues(int node) {
        int keptCopies = 0;
        for (int key = 0; key < IDENTIFIERS; key++) {
            if (values.at(node, key) != NONE) {
                keptCopies += spreadValue(node, key);
            }
        }
        return keptCopies;
    }

    private int spreadValue(int node, int key) {
        int before = predecessors.at(node, 0);
        if (before != NONE && !Circle.isUpTo(key, before, node)) {
            return giveCopy(node, find(node, key), key);
        }
        return copyToHeirs(node, key);
    }

    // ---- lookups

    /** A lookup; its nodes stand in route. Each hop lies nearer to the key, so 64 nodes suffice. */
    private int find(int from, int key) {
        int node = from;
        for (int hop = 0; hop < route.length; hop++) {
            route[hop] = node;
            routeHops = hop;
            int next = firstLivingSuccessor(node);
            if (Circle.isUpTo(key, node, next)) {
                return next;
            }
            node = hopTowards(key, node, next);
        }
        return node;
    }

    private int hopTowards(int key, int node, int next) {
        for (int number = FINGERS - 1; number >= 0; number--) {
            int far = fingers.at(node, number);
            if (isAlive(far) && Circle.isBetween(far, node, key)) {
                return far;
            }
        }
        return next;
    }

    // ---- values

    /**
     * Tells how many copies were kept, 0 or 1. The stamp where no value is kept is NONE, lower than
     * that of any put: such a node gives nothing, and keeps whatever it gets.
     */
    private int giveCopy(int from, int to, int key) {
        int stamp = stamps.at(from, key);
        if (stamp <= stamps.at(to, key)) {
            return 0;
        }
        values.set(to, key, values.at(from, key));
        stamps.set(to, key, stamp);
        return 1;
    }

    private int copyToHeirs(int node, int key) {
        int first = firstHeir(node, NONE);
        int second = firstHeir(node, first);
        int keptCopies = 0;
        if (first != NONE) {
            keptCopies += giveCopy(node, first, key);
        }
        if (second != NONE) {
            keptCopies += giveCopy(node, second, key);
        }
        return keptCopies;
    }

    // ---- the ring as it is

    private int firstLivingUpFrom(int identifier) {
        for (int steps = 0; steps < IDENTIFIERS; steps++) {
            int node = Circle.onward(identifier, steps);
            if (isAlive(node)) {
                return node;
            }
        }
        return NONE;
    }

    private int firstLivingDownFrom(int identifier) {
        for (int steps = 0; steps < IDENTIFIERS; steps++) {
            int node = Circle.onward(identifier, -steps);
            if (isAlive(node)) {
                return node;
            }
        }
        return NONE;
    }

    private int countWrongPointers() {
        int wrong = 0;
        for (int node = 0; node < IDENTIFIERS; node++) {
            if (isAlive(node)) {
                wrong += countWrongPointersOf(node);
            }
        }
        return wrong;
    }

    private int countWrongPointersOf(int node) {
        int wrong = 0;
        if (firstLivingSuccessor(node) != firstLivingUpFrom(Circle.onward(node, 1))) {
            wrong++;
        }
        if (predecessors.at(node, 0) != firstLivingDownFrom(Circle.onward(node, -1))) {
            wrong++;
        }
        for (int number = 0; number < FINGERS; number++) {
            if (fingers.at(node, number) != firstLivingUpFrom(Circle.fingerStart(node, number))) {
                wrong++;
            }
        }
        return wrong;
    }

    // ---- rounds ahead

    private void layPointersAside() {
        asideSuccessors.copyFrom(successors);
        asidePredecessors.copyFrom(predecessors);
        asideFingers.copyFrom(fingers);
    }

    private void takePointersBack() {
        successors.copyFrom(asideSuccessors);
        predecessors.copyFrom(asidePredecessors);
        fingers.copyFrom(asideFingers);
    }

    /** The circle of identifiers. */
    private static final class Circle {
        // IDENTIFIERS is a power of two, so this mask takes any number modulo it, those below 0 too.
        private static final int MASK = IDENTIFIERS - 1;

        private Circle() {
        }

        static int onward(int identifier, int steps) {
            return (identifier + steps) & MASK;
        }

        static int fingerStart(int node, int number) {
            return onward(node, 1 << number);
        }

        /**
         * Whether x lies in (a, b]. The steps up from a + 1 count, so that a itself is the last one
         * to be met, and (a, a] the whole circle.
         */
        static boolean isUpTo(int x, int a, int b) {
            return ((x - a - 1) & MASK) <= ((b - a - 1) & MASK);
        }

        /** Whether x lies in (a, b). */
        static boolean isBetween(int x, int a, int b) {
            return ((x - a - 1) & MASK) < ((b - a - 1) & MASK);
        }
    }

    /**
     * A row of numbers for each identifier, NONE at first. Outside of it there is NONE, and
     * nothing to set: so every index is looked at here, and nowhere else.
     */
    private static final class Table {
        private final int width;
        private final int[] cells;

        Table(int columns) {
            width = Math.max(1, Math.min(columns, IDENTIFIERS));
            cells = new int[IDENTIFIERS * width];
            Arrays.fill(cells, NONE);
        }

        int at(int node, int column) {
            if (node < 0 || node >= IDENTIFIERS || column < 0 || column >= width) {
                return NONE;
            }
            int cell = node * width + column;
            return cell < cells.length ? cells[cell] : NONE;
        }

        void set(int node, int column, int number) {
            if (node < 0 || node >= IDENTIFIERS || column < 0 || column >= width) {
                return;
            }
            int cell = node * width + column;
            if (cell < cells.length) {
                cells[cell] = number;
            }
        }

        void clear(int node) {
            for (int column = 0; column < width; column++) {
                set(node, column, NONE);
            }
        }

        void copyFrom(Table other) {
            if (other != null) {
                System.arraycopy(other.cells, 0, cells, 0, Math.min(other.cells.length, cells.length));
            }
        }
    }
}
