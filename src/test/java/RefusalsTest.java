/**
 * "When a call throws, nothing has changed; of several exceptions it is the first one of the throws
 * clause": every call of the face, with each of its arguments just out of range and far out of it, and
 * with nodes that do not live.
 */
public final class RefusalsTest {
    private static final Checks checks = new Checks("RefusalsTest");
    private static final String RANGE = "IllegalArgumentException";
    private static final String STATE = "IllegalStateException";
    private static final String HOP = "IndexOutOfBoundsException";

    private static final int[] NODES = {0, 8, 16, 24, 31, 40, 48, 63};
    private static final int[] KEYS = {0, 20, 63};

    /** In the state that is asked: nodes that live, and those that never did, that failed, that left. */
    private static final int[] LIVING = {0, 8, 24, 63};
    private static final int[] DEAD = {5, 16, 48};

    public static void main(String[] args) {
        for (FaceCall call : FaceCall.ALL) {
            checks.edge(call.name + ": the ends of each range", () -> insideItsRanges(call));
            checks.edge(call.name + ": out of range", () -> outOfItsRanges(call));
            checks.edge(call.name + ": of several exceptions the first one", () -> rangeBeforeState(call));
            checks.edge(call.name + ": a node that does not live, or lives", () -> wrongState(call));
        }
        checks.edge("hopAt: of several exceptions the first one", RefusalsTest::hopGoesLast);
        checks.edge("When a call throws, nothing has changed: a new object", RefusalsTest::newObjectStays);
        checks.edge("When a call throws, nothing has changed: 64 nodes", RefusalsTest::fullRingStays);
        checks.tell();
    }

    /** Dead pointers, half-known nodes, values of several stamps: much that a refused call could spoil. */
    private static ChordOverlay state() {
        ChordOverlay x = Checks.ring(0, 8, 16, 24, 31, 48);
        x.put(0, 20, 5);
        x.put(0, 63, 6);
        x.join(63, 0);
        x.join(40, 8);
        x.stabilize(40);
        x.put(0, 0, 7);
        x.put(24, 20, 8);
        x.fail(16);
        x.leave(48);
        return x;
    }

    private static String answer(ChordOverlay x, FaceCall call, int[] given) {
        return Checks.thrownBy(() -> call.asked.on(x, given));
    }

    private static void refused(FaceCall call, int[] given, String due) {
        checks.same(call.written(given), answer(state(), call, given), due);
        changesNothing(call, given);
    }

    /** Two objects of the same calls, but that one refused a call: they go on alike. */
    private static void changesNothing(FaceCall call, int[] given) {
        ChordOverlay asked = state();
        ChordOverlay same = state();
        answer(asked, call, given);
        String when = " after " + call.written(given);
        checks.same("all that is known" + when, told(asked), told(same));
        goOn(asked);
        goOn(same);
        checks.same("later on" + when, told(asked), told(same));
    }

    private static String told(ChordOverlay x) {
        return Checks.told(x, NODES, KEYS) + ", living " + x.living() + x.isLiving(5) + x.owner(5) + x.keepers(20);
    }

    private static void goOn(ChordOverlay x) {
        x.put(0, 20, 9);
        x.replicate(24);
        x.goRounds(1);
        x.join(16, 63);
        x.put(8, 12, 3);
        x.leave(8);
        x.replicate(31);
    }

    // ---- each call

    private static void insideItsRanges(FaceCall call) {
        for (int argument = 0; argument < call.arguments(); argument++) {
            for (int value : new int[] {call.least(argument), call.greatest(argument)}) {
                int node = argument == 0 ? value : call.first == FaceCall.First.JOINS ? 31 : 0;
                int[] given = call.with(node, argument, value);
                ChordOverlay x = call.name.equals("create") ? new ChordOverlay() : Checks.ring(0, 63);
                if (call.name.equals("join")) {
                    given = argument == 0 ? new int[] {value, 63 - value} : given;
                    x = Checks.alone(given[1]);
                }
                checks.same(call.written(given), answer(x, call, given), "nothing");
            }
        }
    }

    private static void outOfItsRanges(FaceCall call) {
        int node = call.first == FaceCall.First.JOINS ? 5 : 8;
        for (int argument = 0; argument < call.arguments(); argument++) {
            for (int value : call.outside(argument)) {
                refused(call, call.with(node, argument, value), RANGE);
            }
        }
    }

    /** The first argument alone is a fault of state; any other one out of range goes before it. */
    private static void rangeBeforeState(FaceCall call) {
        int node = call.first == FaceCall.First.JOINS ? 8 : 5;
        for (int argument = 0; argument < call.arguments(); argument++) {
            for (int value : call.outside(argument)) {
                int[] given = call.with(node, argument, value);
                refused(call, given, RANGE);
                checks.same(call.written(given) + " on a new object", answer(new ChordOverlay(), call, given), RANGE);
            }
        }
    }

    private static void wrongState(FaceCall call) {
        if (call.first == FaceCall.First.LIVES) {
            for (int node : DEAD) {
                refused(call, call.with(node), STATE);
            }
            checks.same(call.name + " on a new object", answer(new ChordOverlay(), call, call.with(0)), STATE);
        } else if (call.name.equals("create")) {
            for (int node : new int[] {0, 8, 5, 16, 48, 63}) {
                refused(call, call.with(node), STATE);
            }
        } else if (call.name.equals("join")) {
            joinInAWrongState(call);
        } else {
            checks.same(call.name + " asks for no node", answer(new ChordOverlay(), call, call.with(0)), "nothing");
        }
    }

    private static void joinInAWrongState(FaceCall join) {
        for (int living : LIVING) {
            refused(join, new int[] {living, 24}, STATE);
            refused(join, new int[] {living, living}, STATE);
            refused(join, new int[] {living, 5}, STATE);
        }
        for (int dead : DEAD) {
            refused(join, new int[] {62, dead}, STATE);
            refused(join, new int[] {dead, dead}, STATE);
            refused(join, new int[] {0, dead}, STATE);
        }
    }

    // ---- hopAt's third argument, and the ends of what an object can hold

    private static void hopGoesLast() {
        int[] hops = {-1, 64, Integer.MIN_VALUE, Integer.MAX_VALUE};
        for (int hop : hops) {
            FaceCall call = new FaceCall("hopAt", FaceCall.First.LIVES, (x, a) -> x.hopAt(a[0], a[1], hop), 0, 63, 0, 63);
            refused(call, new int[] {0, 20}, HOP);
            refused(call, new int[] {63, 63}, HOP);
            refused(call, new int[] {5, 20}, STATE);
            refused(call, new int[] {16, 20}, STATE);
            refused(call, new int[] {64, 20}, RANGE);
            refused(call, new int[] {0, 64}, RANGE);
            refused(call, new int[] {0, -1}, RANGE);
            refused(call, new int[] {5, 64}, RANGE);
        }
    }

    private static void newObjectStays() {
        for (FaceCall call : FaceCall.ALL) {
            ChordOverlay x = new ChordOverlay();
            for (int argument = 0; argument < call.arguments(); argument++) {
                for (int value : call.outside(argument)) {
                    answer(x, call, call.with(0, argument, value));
                }
            }
            if (call.first == FaceCall.First.LIVES) {
                answer(x, call, call.with(0));
            }
            checks.same("living() after " + call.name, x.living(), 0);
            checks.same("owner(0) after " + call.name, x.owner(0), -1);
            checks.same("create(0) after " + call.name, x.create(0), 1);
            checks.same("known of 0 after " + call.name, Checks.known(x, 0), "0 0 0 | -1 | -1 -1 -1 -1 -1 -1");
        }
    }

    private static void fullRingStays() {
        ChordOverlay x = Checks.ring(Checks.upward(64));
        for (int node = 0; node < 64; node++) {
            int id = node;
            checks.badState("create(" + id + ")", () -> x.create(id));
            checks.badState("join(" + id + ", 0)", () -> x.join(id, 0));
        }
        checks.same("living()", x.living(), 64);
        checks.same("wrongPointers()", x.wrongPointers(), 0);
        checks.same("known of 63", Checks.known(x, 63), "0 1 2 | 62 | 0 1 3 7 15 31");
    }
}
