import java.util.Arrays;

/** Counts the answers that are not as due. Each test makes one, and ends by tell(). */
final class Checks {
    interface Call {
        void go();
    }

    private final String test;
    private String sentence = "";
    private int wrong = 0;
    private int made = 0;

    Checks(String test) {
        this.test = test;
    }

    /** The test of one sentence of the document: it checks something, and throws nothing. */
    void edge(String quoted, Call itsTest) {
        int madeBefore = made;
        sentence = ", \"" + quoted + "\"";
        try {
            itsTest.go();
            if (made == madeBefore) {
                tellWrong("the test checks nothing");
            }
        } catch (RuntimeException e) {
            tellWrong("the test ended by " + e);
        }
        sentence = "";
    }

    private void tellWrong(String what) {
        wrong++;
        System.out.println(test + sentence + ": " + what);
    }

    void same(String what, long got, long due) {
        made++;
        if (got != due) {
            tellWrong(what + " answered " + got + ", due is " + due);
        }
    }

    void same(String what, boolean got, boolean due) {
        same(what, got ? 1 : 0, due ? 1 : 0);
    }

    void same(String what, String got, String due) {
        made++;
        if (!got.equals(due)) {
            tellWrong(what + " answered " + got + ", due is " + due);
        }
    }

    void outOfRange(String what, Call call) {
        same(what, thrownBy(call), "IllegalArgumentException");
    }

    void badState(String what, Call call) {
        same(what, thrownBy(call), "IllegalStateException");
    }

    void noSuchHop(String what, Call call) {
        same(what, thrownBy(call), "IndexOutOfBoundsException");
    }

    static String thrownBy(Call call) {
        try {
            call.go();
            return "nothing";
        } catch (RuntimeException e) {
            return e.getClass().getSimpleName();
        }
    }

    void tell() {
        System.out.println(test + ": " + made + " checks, " + wrong + " wrong");
        if (wrong > 0 || made == 0) {
            System.exit(1);
        }
    }

    /** One node, and the others joined by way of it: it alone is what they know, and it knows none. */
    static ChordOverlay joined(int... nodes) {
        ChordOverlay overlay = new ChordOverlay();
        overlay.create(nodes[0]);
        for (int i = 1; i < nodes.length; i++) {
            overlay.join(nodes[i], nodes[0]);
        }
        return overlay;
    }

    /** A node that knows nothing but itself. */
    static ChordOverlay alone(int node) {
        return joined(node);
    }

    /** Whether x is met when going up from a + 1 to b around the circle. */
    static boolean met(int x, int a, int b) {
        int at = a;
        do {
            at = at == 63 ? 0 : at + 1;
        } while (at != x && at != b);
        return at == x;
    }

    /** The identifiers from 0 to count - 1. */
    static int[] upward(int count) {
        int[] nodes = new int[count];
        for (int i = 0; i < count; i++) {
            nodes[i] = i;
        }
        return nodes;
    }

    /** A ring of these nodes in which every pointer is right. */
    static ChordOverlay ring(int... nodes) {
        return grow(alone(nodes[0]), nodes[0], Arrays.copyOfRange(nodes, 1, nodes.length));
    }

    /** Lets these nodes join by way of via, until every pointer is right. */
    static ChordOverlay grow(ChordOverlay overlay, int via, int... nodes) {
        for (int node : nodes) {
            overlay.join(node, via);
            overlay.goRounds(3);
        }
        int wrongPointers = overlay.goRounds(20);
        if (wrongPointers != 0) {
            throw new IllegalStateException("the ring has " + wrongPointers + " wrong pointers");
        }
        return overlay;
    }

    /**
     * 0 and 40 live: 0 is its own predecessor, but knows 40 as its live successor; it alone keeps the
     * values, one for each of the keys. 32, which 0 forgot while it kept 0 as its predecessor, left.
     */
    static ChordOverlay ownPredecessor(int... keys) {
        ChordOverlay overlay = ring(0, 8, 16, 24, 32, 40);
        overlay.leave(24);
        overlay.leave(16);
        overlay.leave(8);
        overlay.fail(0);
        overlay.join(0, 40);
        overlay.fail(40);
        overlay.stabilize(0);
        for (int key : keys) {
            overlay.put(0, key, key);
        }
        overlay.join(40, 32);
        overlay.leave(32);
        return overlay;
    }

    /** 10, 20 and 30 live, and 10 knows 20, 20 and 30: 20 counts once, and 30 is its second successor. */
    static ChordOverlay oneTwice() {
        ChordOverlay overlay = ring(20, 30, 40);
        overlay.fail(30);
        overlay.fail(40);
        overlay.stabilize(20);
        overlay.join(10, 20);
        overlay.join(30, 20);
        overlay.stabilize(10);
        overlay.stabilize(20);
        return overlay;
    }

    static String successors(ChordOverlay overlay, int node) {
        return overlay.successor(node, 0) + " " + overlay.successor(node, 1) + " " + overlay.successor(node, 2);
    }

    static String fingers(ChordOverlay overlay, int node) {
        StringBuilder told = new StringBuilder();
        for (int number = 0; number < 6; number++) {
            told.append(number == 0 ? "" : " ").append(overlay.finger(node, number));
        }
        return told.toString();
    }

    static String route(ChordOverlay overlay, int from, int key) {
        StringBuilder told = new StringBuilder();
        int hops = overlay.hops(from, key);
        for (int hop = 0; hop <= hops; hop++) {
            told.append(overlay.hopAt(from, key, hop)).append(' ');
        }
        return told.append("> ").append(overlay.lookup(from, key)).toString();
    }

    /** All that a node knows: its successors, its predecessor, its fingers. */
    static String known(ChordOverlay overlay, int node) {
        return successors(overlay, node) + " | " + overlay.predecessor(node) + " | " + fingers(overlay, node);
    }

    /** All that these nodes know, and what they keep for these keys, a node that lives no more as such. */
    static String told(ChordOverlay overlay, int[] nodes, int[] keys) {
        StringBuilder told = new StringBuilder();
        for (int node : nodes) {
            told.append(node).append(": ");
            told.append(overlay.isLiving(node) ? known(overlay, node) + values(overlay, node, keys) : "gone").append("; ");
        }
        return told.append("wrong ").append(overlay.wrongPointers()).toString();
    }

    private static String values(ChordOverlay overlay, int node, int[] keys) {
        StringBuilder told = new StringBuilder(" |");
        for (int key : keys) {
            told.append(' ').append(overlay.kept(node, key));
        }
        return told.toString();
    }
}
