/** Promises 17 to 19: lookups. */
public final class LookupTest {
    private static final Checks checks = new Checks("LookupTest");

    public static void main(String[] args) {
        rightRing();
        ways();
        waysPastDeadNodes();
        waysWithoutFingers();
        longestWay();
        foundByWhatNodesKnow();
        alone();
        lookupRefuses();
        hopsRefuses();
        hopAtRefuses();
        nothingChanges();
        checks.tell();
    }

    private static void rightRing() {
        int[] nodes = {0, 8, 16, 24, 32, 48};
        ChordOverlay x = Checks.ring(nodes);
        for (int from : nodes) {
            for (int key = 0; key < 64; key++) {
                int due = key > 48 ? 0 : key > 32 ? 48 : (key + 7) / 8 * 8;
                checks.same("lookup(" + from + ", " + key + ")", x.lookup(from, key), due);
            }
        }
    }

    private static void ways() {
        ChordOverlay x = Checks.ring(0, 8, 16, 24, 32, 48);
        checks.same("way ended at once", Checks.route(x, 0, 1), "0 > 8");
        checks.same("way ended at once, by the last key", Checks.route(x, 0, 8), "0 > 8");
        checks.same("way by a successor", Checks.route(x, 0, 9), "0 8 > 16");
        checks.same("way by the farthest finger before the key", Checks.route(x, 48, 47), "48 16 32 > 48");
        checks.same("a finger at the key itself is no hop", Checks.route(x, 0, 32), "0 16 24 > 32");
        checks.same("a node's own key is the farthest", Checks.route(x, 0, 0), "0 32 48 > 0");
        checks.same("a way past 63", Checks.route(x, 32, 7), "32 0 > 8");
        checks.same("hopAt(48, 47, 0)", x.hopAt(48, 47, 0), 48);
        checks.same("hopAt(48, 47, 1)", x.hopAt(48, 47, 1), 16);
        checks.same("hopAt(48, 47, 2)", x.hopAt(48, 47, 2), 32);
    }

    private static void waysPastDeadNodes() {
        ChordOverlay x = Checks.ring(0, 8, 16, 24, 32, 48);
        x.fail(32);
        checks.same("a dead finger is passed over", Checks.route(x, 0, 0), "0 16 48 > 0");
        checks.same("a dead successor is passed over", Checks.route(x, 24, 30), "24 > 48");
        x.join(32, 0);
        checks.same("a finger that lives again leads on", Checks.route(x, 0, 0), "0 32 48 > 0");
        checks.same("a successor that lives again is found", Checks.route(x, 24, 30), "24 > 32");

        ChordOverlay y = Checks.ring(0, 1, 4, 5, 8);
        y.fail(1);
        y.fail(4);
        y.stabilize(0);
        y.join(1, 0);
        checks.same("fingers of 0", Checks.fingers(y, 0), "1 4 4 8 0 0");
        checks.same("the finger 0 leads on too, nearer than the successor 5", Checks.route(y, 0, 6), "0 1 5 > 8");
    }

    private static void waysWithoutFingers() {
        ChordOverlay x = Checks.ring(0, 8, 16);
        x.join(4, 0);
        checks.same("by the live successor", Checks.route(x, 4, 2), "4 8 0 > 8");
        x.join(40, 0);
        x.fail(0);
        checks.same("by the live successor behind a dead one", Checks.route(x, 40, 12), "40 8 > 16");
    }

    /** 64 nodes without fingers: from 0 to its own key each node is met. */
    private static void longestWay() {
        ChordOverlay x = new ChordOverlay();
        x.create(0);
        for (int node = 63; node > 0; node--) {
            x.join(node, 0);
            x.stabilize(node);
            x.stabilize(0);
        }
        checks.same("hops(0, 0)", x.hops(0, 0), 63);
        checks.same("lookup(0, 0)", x.lookup(0, 0), 0);
        for (int hop = 0; hop < 64; hop++) {
            checks.same("hopAt(0, 0, " + hop + ")", x.hopAt(0, 0, hop), hop);
        }
        checks.noSuchHop("hopAt(0, 0, 64)", () -> x.hopAt(0, 0, 64));
        checks.same("hops(5, 3)", x.hops(5, 3), 61);
        checks.same("hopAt(5, 3, 61)", x.hopAt(5, 3, 61), 2);
    }

    private static void foundByWhatNodesKnow() {
        ChordOverlay x = new ChordOverlay();
        x.create(10);
        x.join(40, 10);
        checks.same("lookup(10, 40), 40 not yet known", x.lookup(10, 40), 10);
        checks.same("lookup(40, 40), by way of 10", Checks.route(x, 40, 40), "40 10 > 10");
        checks.same("its owner", x.owner(40), 40);
    }

    private static void alone() {
        ChordOverlay x = new ChordOverlay();
        x.create(63);
        checks.same("way to its own key", Checks.route(x, 63, 63), "63 > 63");
        checks.same("way to the next key", Checks.route(x, 63, 0), "63 > 63");
        checks.same("way to the last key", Checks.route(x, 63, 62), "63 > 63");
    }

    private static void lookupRefuses() {
        ChordOverlay x = Checks.ring(10, 40);
        checks.outOfRange("lookup(-1, 0)", () -> x.lookup(-1, 0));
        checks.outOfRange("lookup(64, 0)", () -> x.lookup(64, 0));
        checks.outOfRange("lookup(10, -1)", () -> x.lookup(10, -1));
        checks.outOfRange("lookup(10, 64)", () -> x.lookup(10, 64));
        checks.outOfRange("lookup(11, 64): the range goes first", () -> x.lookup(11, 64));
        checks.badState("lookup(11, 0)", () -> x.lookup(11, 0));
    }

    private static void hopsRefuses() {
        ChordOverlay x = Checks.ring(10, 40);
        checks.outOfRange("hops(-1, 0)", () -> x.hops(-1, 0));
        checks.outOfRange("hops(64, 0)", () -> x.hops(64, 0));
        checks.outOfRange("hops(10, -1)", () -> x.hops(10, -1));
        checks.outOfRange("hops(10, 64)", () -> x.hops(10, 64));
        checks.outOfRange("hops(11, -1): the range goes first", () -> x.hops(11, -1));
        checks.badState("hops(11, 0)", () -> x.hops(11, 0));
    }

    private static void hopAtRefuses() {
        ChordOverlay x = Checks.ring(0, 8, 16, 24, 32, 48);
        checks.outOfRange("hopAt(-1, 0, 0)", () -> x.hopAt(-1, 0, 0));
        checks.outOfRange("hopAt(64, 0, 0)", () -> x.hopAt(64, 0, 0));
        checks.outOfRange("hopAt(0, -1, 0)", () -> x.hopAt(0, -1, 0));
        checks.outOfRange("hopAt(0, 64, 0)", () -> x.hopAt(0, 64, 0));
        checks.outOfRange("hopAt(1, 64, -1): the range goes first", () -> x.hopAt(1, 64, -1));
        checks.badState("hopAt(1, 0, 0)", () -> x.hopAt(1, 0, 0));
        checks.badState("hopAt(1, 0, -1): the state goes before the hop", () -> x.hopAt(1, 0, -1));
        checks.noSuchHop("hopAt(48, 47, -1)", () -> x.hopAt(48, 47, -1));
        checks.noSuchHop("hopAt(48, 47, 3)", () -> x.hopAt(48, 47, 3));
        checks.noSuchHop("hopAt(0, 1, 1)", () -> x.hopAt(0, 1, 1));
        checks.noSuchHop("hopAt(0, 1, greatest int)", () -> x.hopAt(0, 1, Integer.MAX_VALUE));
        checks.noSuchHop("hopAt(0, 1, least int)", () -> x.hopAt(0, 1, Integer.MIN_VALUE));
    }

    private static void nothingChanges() {
        ChordOverlay x = Checks.ring(0, 8, 16, 24, 32, 48);
        x.fail(32);
        int before = x.wrongPointers();
        Checks.route(x, 0, 0);
        Checks.route(x, 24, 30);
        checks.same("wrongPointers() after lookups", x.wrongPointers(), before);
        checks.same("successors of 24", Checks.successors(x, 24), "32 48 0");
        checks.same("fingers of 0", Checks.fingers(x, 0), "8 8 8 8 16 32");
    }
}
