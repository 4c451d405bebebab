/** Counts the answers that are not as due. Each test makes one, and ends by tell(). */
final class Checks {
    interface Call {
        void go();
    }

    private final String test;
    private int wrong = 0;
    private int made = 0;

    Checks(String test) {
        this.test = test;
    }

    void same(String what, long got, long due) {
        made++;
        if (got != due) {
            wrong++;
            System.out.println(test + ": " + what + " answered " + got + ", due is " + due);
        }
    }

    void same(String what, boolean got, boolean due) {
        same(what, got ? 1 : 0, due ? 1 : 0);
    }

    void same(String what, String got, String due) {
        made++;
        if (!got.equals(due)) {
            wrong++;
            System.out.println(test + ": " + what + " answered " + got + ", due is " + due);
        }
    }

    void outOfRange(String what, Call call) {
        same(what, thrownBy(call), "IllegalArgumentException");
    }

    void badState(String what, Call call) {
        same(what, thrownBy(call), "IllegalStateException");
    }

    void noSuchHop(String what, Call call) {
        same(what, thrownBy(call), "IndexOutOfBoundsException");
    }

    private static String thrownBy(Call call) {
        try {
            call.go();
            return "nothing";
        } catch (RuntimeException e) {
            return e.getClass().getSimpleName();
        }
    }

    void tell() {
        System.out.println(test + ": " + made + " checks, " + wrong + " wrong");
        if (wrong > 0 || made == 0) {
            System.exit(1);
        }
    }

    /** A ring of these nodes in which every pointer is right. */
    static ChordOverlay ring(int... nodes) {
        ChordOverlay overlay = new ChordOverlay();
        overlay.create(nodes[0]);
        for (int i = 1; i < nodes.length; i++) {
            overlay.join(nodes[i], nodes[0]);
            overlay.goRounds(3);
        }
        int wrongPointers = overlay.goRounds(20);
        if (wrongPointers != 0) {
            throw new IllegalStateException("the ring has " + wrongPointers + " wrong pointers");
        }
        return overlay;
    }

    static String successors(ChordOverlay overlay, int node) {
        return overlay.successor(node, 0) + " " + overlay.successor(node, 1) + " " + overlay.successor(node, 2);
    }

    static String fingers(ChordOverlay overlay, int node) {
        StringBuilder told = new StringBuilder();
        for (int number = 0; number < 6; number++) {
            told.append(number == 0 ? "" : " ").append(overlay.finger(node, number));
        }
        return told.toString();
    }

    static String route(ChordOverlay overlay, int from, int key) {
        StringBuilder told = new StringBuilder();
        int hops = overlay.hops(from, key);
        for (int hop = 0; hop <= hops; hop++) {
            told.append(overlay.hopAt(from, key, hop)).append(' ');
        }
        return told.append("> ").append(overlay.lookup(from, key)).toString();
    }
}
