/**
 * Where the circle, a stretch of it and a lookup begin and end: the edges that the document names under
 * "Terms" and in promises 17 to 19. Each test stands under the sentence that it holds.
 */
public final class CircleEdgesTest {
    private static final Checks checks = new Checks("CircleEdgesTest");

    /** Neighbours, far ones, and each with the circle's two ends. */
    private static final int[][] PAIRS = {
        {10, 40}, {40, 10}, {0, 63}, {63, 0}, {62, 63}, {63, 62}, {0, 1}, {1, 0}, {31, 32}, {32, 31},
    };

    public static void main(String[] args) {
        theCircle();
        lookups();
        promises17To19();
        checks.tell();
    }

    private static void theCircle() {
        checks.edge("Identifiers are 0 to 63", CircleEdgesTest::lowestAndHighestIdentifier);
        checks.edge("63 is followed by 0", CircleEdgesTest::pastTheEnd);
        checks.edge("met when going up from a + 1 to b around the circle", CircleEdgesTest::closedStretches);
        checks.edge("(a, a] is the whole circle", CircleEdgesTest::wholeCircle);
        checks.edge("It lies in (a, b) if it lies in (a, b] and is not b", CircleEdgesTest::openStretches);
        checks.edge("It lies in (a, b) if it lies in (a, b] and is not b, of (a, a)", CircleEdgesTest::openWholeCircle);
    }

    private static void lookups() {
        checks.edge("if the key lies in (n, s] it ends", CircleEdgesTest::firstAndLastKeyOfTheSuccessor);
        checks.edge("with s for the live successor of the node n", CircleEdgesTest::deadSuccessors);
        checks.edge("with s for the live successor of the node n: if none lives, n", CircleEdgesTest::noLiveSuccessor);
        checks.edge("the first one of the fingers 5, 4 and so on", CircleEdgesTest::finger5GoesFirst);
        checks.edge("down to 0", CircleEdgesTest::finger0GoesLast);
        checks.edge("of n that lives", CircleEdgesTest::deadFingers);
        checks.edge("of n that lives: also one that lives again", CircleEdgesTest::fingersThatLiveAgain);
        checks.edge("and lies in (n, key)", CircleEdgesTest::fingersBesideTheKey);
        checks.edge("and lies in (n, key): n itself does not", CircleEdgesTest::fingerOfItself);
        checks.edge("if there is none, it is s: all unknown", CircleEdgesTest::unknownFingers);
        checks.edge("if there is none, it is s: all behind the key", CircleEdgesTest::fingersBehindTheKey);
        checks.edge("every lookup ends", CircleEdgesTest::longestWays);
    }

    private static void promises17To19() {
        checks.edge("Returns the node that is found, among 64", CircleEdgesTest::foundInFullRing);
        checks.edge("Returns how many hops a lookup has: 0", CircleEdgesTest::noHops);
        checks.edge("Returns how many hops a lookup has, among 64", CircleEdgesTest::hopsInFullRing);
        checks.edge("1 for the first one; 0 tells from", CircleEdgesTest::hopsFromTheFirst);
        checks.edge("if hop is below 0", CircleEdgesTest::hopsBelow0);
        checks.edge("or the lookup has not so many hops", CircleEdgesTest::hopsTooMany);
    }

    // ---- the circle

    private static void lowestAndHighestIdentifier() {
        ChordOverlay x = new ChordOverlay();
        checks.same("create(0)", x.create(0), 1);
        checks.same("join(63, 0)", x.join(63, 0), 0);
        checks.same("goRounds(2)", x.goRounds(2), 0);
        checks.same("put(0, 63, 7)", x.put(0, 63, 7), 63);
        checks.same("put(63, 0, 8)", x.put(63, 0, 8), 0);
        checks.same("get(63, 63)", x.get(63, 63), 7);
        checks.same("get(0, 0)", x.get(0, 0), 8);
        checks.same("known of 0", Checks.known(x, 0), "63 0 0 | 63 | 63 63 63 63 63 63");
        checks.same("known of 63", Checks.known(x, 63), "0 63 0 | 0 | 0 63 63 63 63 63");
    }

    private static void pastTheEnd() {
        ChordOverlay x = Checks.ring(20, 60);
        for (int key : new int[] {61, 62, 63, 0, 1, 19, 20}) {
            checks.same("way from 60 to " + key, Checks.route(x, 60, key), "60 > 20");
            checks.same("owner(" + key + ")", x.owner(key), 20);
        }
        checks.same("lookup(60, 21)", x.lookup(60, 21), 60);
        checks.same("fingers of 60", Checks.fingers(x, 60), "20 20 20 20 20 60");
        checks.same("predecessor(20)", x.predecessor(20), 60);
    }

    /** Of two nodes each finds at once what lies up to the other, and the rest by a hop to it. */
    private static void closedStretches() {
        for (int[] pair : PAIRS) {
            ChordOverlay x = Checks.ring(pair);
            for (int key = 0; key < 64; key++) {
                boolean within = Checks.met(key, pair[0], pair[1]);
                String call = "(" + pair[0] + ", " + key + ") beside " + pair[1];
                checks.same("lookup" + call, x.lookup(pair[0], key), within ? pair[1] : pair[0]);
                checks.same("hops" + call, x.hops(pair[0], key), within ? 0 : 1);
            }
        }
    }

    private static void wholeCircle() {
        for (int node : new int[] {0, 1, 31, 32, 62, 63}) {
            ChordOverlay x = Checks.alone(node);
            for (int key = 0; key < 64; key++) {
                checks.same("lookup(" + node + ", " + key + ")", x.lookup(node, key), node);
                checks.same("hops(" + node + ", " + key + ")", x.hops(node, key), 0);
            }
        }
    }

    /** A finger just below the key is a hop; one at the key, or just above, is none. */
    private static void openStretches() {
        ChordOverlay x = Checks.ring(0, 8, 16, 24, 32, 48);
        checks.same("fingers of 0", Checks.fingers(x, 0), "8 8 8 8 16 32");
        checks.same("key above the finger 32", Checks.route(x, 0, 33), "0 32 > 48");
        checks.same("key of the finger 32", Checks.route(x, 0, 32), "0 16 24 > 32");
        checks.same("key below the finger 32", Checks.route(x, 0, 31), "0 16 24 > 32");
        checks.same("fingers of 32", Checks.fingers(x, 32), "48 48 48 48 48 0");
        checks.same("key above the finger 0", Checks.route(x, 32, 1), "32 0 > 8");
        checks.same("key of the finger 0", Checks.route(x, 32, 0), "32 48 > 0");
        checks.same("key below the finger 0", Checks.route(x, 32, 63), "32 48 > 0");
    }

    /** (n, n) is all but n: for its own key a node turns to its farthest finger. */
    private static void openWholeCircle() {
        ChordOverlay x = Checks.ring(0, 8, 16, 24, 32, 48);
        checks.same("way from 0 to itself", Checks.route(x, 0, 0), "0 32 48 > 0");
        checks.same("way from 48 to itself", Checks.route(x, 48, 48), "48 16 32 > 48");
        ChordOverlay y = Checks.ring(0, 63);
        checks.same("way from 63 to itself", Checks.route(y, 63, 63), "63 0 > 63");
        checks.same("way from 0 to itself, by 63", Checks.route(y, 0, 0), "0 63 > 0");
    }

    // ---- lookups

    private static void firstAndLastKeyOfTheSuccessor() {
        ChordOverlay x = Checks.ring(0, 8, 16, 24, 32, 48);
        checks.same("first key", Checks.route(x, 8, 9), "8 > 16");
        checks.same("last key", Checks.route(x, 8, 16), "8 > 16");
        checks.same("one key more", Checks.route(x, 8, 17), "8 16 > 24");
        checks.same("its own key", x.hops(8, 8) > 0, true);
        checks.same("first key past 48", Checks.route(x, 48, 49), "48 > 0");
        checks.same("last number of the circle", Checks.route(x, 48, 63), "48 > 0");
        checks.same("last key past 48", Checks.route(x, 48, 0), "48 > 0");
        checks.same("one key more past 48", Checks.route(x, 48, 1), "48 0 > 8");
    }

    private static void deadSuccessors() {
        ChordOverlay x = Checks.ring(0, 8, 16, 24, 32, 48);
        x.fail(16);
        checks.same("first one dead", Checks.route(x, 8, 24), "8 > 24");
        checks.same("its key goes to the next one", Checks.route(x, 8, 16), "8 > 24");
        x.fail(24);
        checks.same("two dead", Checks.route(x, 8, 32), "8 > 32");
        x.join(24, 0);
        checks.same("the second lives again", Checks.route(x, 8, 24), "8 > 24");
    }

    private static void noLiveSuccessor() {
        ChordOverlay x = Checks.ring(0, 8, 16, 24, 32, 48);
        x.fail(16);
        x.fail(24);
        x.fail(32);
        checks.same("next key", Checks.route(x, 8, 9), "8 > 8");
        checks.same("its own key", Checks.route(x, 8, 8), "8 > 8");
        checks.same("the key of a finger that lives", Checks.route(x, 8, 48), "8 > 8");
        checks.same("the key before its own", Checks.route(x, 8, 7), "8 > 8");
    }

    private static void finger5GoesFirst() {
        ChordOverlay x = Checks.ring(0, 1, 2, 4, 8, 16, 32);
        checks.same("fingers of 0", Checks.fingers(x, 0), "1 2 4 8 16 32");
        checks.same("finger 5", Checks.route(x, 0, 33), "0 32 > 0");
        checks.same("finger 4", Checks.route(x, 0, 17), "0 16 > 32");
        checks.same("finger 3", Checks.route(x, 0, 9), "0 8 > 16");
        checks.same("finger 2", Checks.route(x, 0, 5), "0 4 > 8");
        checks.same("finger 1", Checks.route(x, 0, 3), "0 2 > 4");
        checks.same("finger 0", Checks.route(x, 0, 2), "0 1 > 2");
    }

    /** 1 lives again, but 0 has forgotten it as its successor; its finger 0 is nearer than 5. */
    private static void finger0GoesLast() {
        ChordOverlay x = Checks.ring(0, 1, 4, 5, 8);
        x.fail(1);
        x.fail(4);
        x.stabilize(0);
        x.join(1, 0);
        checks.same("live successor of 0", x.liveSuccessor(0), 5);
        checks.same("fingers of 0", Checks.fingers(x, 0), "1 4 4 8 0 0");
        checks.same("way by the finger 0", Checks.route(x, 0, 6), "0 1 5 > 8");
        x.fail(1);
        checks.same("way without it, by the successor", Checks.route(x, 0, 6), "0 5 > 8");
    }

    private static void deadFingers() {
        ChordOverlay x = Checks.ring(0, 8, 16, 24, 32, 48);
        x.fail(32);
        checks.same("finger 5 dead", Checks.route(x, 0, 33), "0 16 24 > 48");
        x.fail(16);
        checks.same("fingers 5 and 4 dead", Checks.route(x, 0, 33), "0 8 24 > 48");
        x.fail(8);
        checks.same("all fingers dead", Checks.route(x, 0, 33), "0 24 > 48");
    }

    private static void fingersThatLiveAgain() {
        ChordOverlay x = Checks.ring(0, 8, 16, 24, 32, 48);
        x.fail(32);
        x.join(32, 0);
        checks.same("finger 5 lives again", Checks.route(x, 0, 33), "0 32 > 48");
    }

    private static void fingersBesideTheKey() {
        ChordOverlay x = Checks.ring(0, 1, 2, 4, 8, 16, 32);
        checks.same("finger 5 is the key", Checks.route(x, 0, 32), "0 16 > 32");
        checks.same("finger 4 is the key", Checks.route(x, 0, 16), "0 8 > 16");
        checks.same("finger 2 is the key", Checks.route(x, 0, 4), "0 2 > 4");
    }

    private static void fingerOfItself() {
        ChordOverlay x = Checks.ring(0, 5);
        checks.same("fingers of 0", Checks.fingers(x, 0), "5 5 5 0 0 0");
        checks.same("another's key", Checks.route(x, 0, 60), "0 5 > 0");
        checks.same("its own key", Checks.route(x, 0, 0), "0 5 > 0");
    }

    /** -1 is no node: neither 63, which would come before 0, nor one to go to. */
    private static void unknownFingers() {
        ChordOverlay x = Checks.ring(0, 8, 16, 63);
        x.join(4, 0);
        checks.same("fingers of 4", Checks.fingers(x, 4), "-1 -1 -1 -1 -1 -1");
        checks.same("way from 4 to its own key", Checks.route(x, 4, 4), "4 8 63 0 > 8");
        checks.same("way from 4 to 9", Checks.route(x, 4, 9), "4 8 > 16");
    }

    private static void fingersBehindTheKey() {
        ChordOverlay x = Checks.ring(0, 32);
        x.join(8, 0);
        x.stabilize(8);
        x.stabilize(0);
        checks.same("known of 0", Checks.known(x, 0), "8 32 0 | 32 | 32 32 32 32 32 32");
        checks.same("way from 0 to 20", Checks.route(x, 0, 20), "0 8 > 32");
        checks.same("way from 0 to 9", Checks.route(x, 0, 9), "0 8 > 32");
    }

    /** 64 nodes without fingers, each with the next one as its successor. */
    private static ChordOverlay chain() {
        ChordOverlay x = Checks.alone(0);
        for (int node = 63; node > 0; node--) {
            x.join(node, 0);
            x.stabilize(node);
            x.stabilize(0);
        }
        return x;
    }

    private static void longestWays() {
        ChordOverlay x = chain();
        for (int from : new int[] {0, 31, 63}) {
            checks.same("lookup(" + from + ", " + from + ")", x.lookup(from, from), from);
            checks.same("hops(" + from + ", " + from + ")", x.hops(from, from), 63);
            checks.same("hops to the key before", x.hops(from, (from + 63) % 64), 62);
            checks.same("hops to the next key", x.hops(from, (from + 1) % 64), 0);
        }
        for (int hop = 0; hop <= 63; hop++) {
            checks.same("hopAt(63, 63, " + hop + ")", x.hopAt(63, 63, hop), (63 + hop) % 64);
        }
    }

    // ---- promises 17 to 19

    private static void foundInFullRing() {
        ChordOverlay x = Checks.ring(Checks.upward(64));
        for (int from : new int[] {0, 31, 63}) {
            for (int key = 0; key < 64; key++) {
                checks.same("lookup(" + from + ", " + key + ")", x.lookup(from, key), key);
            }
        }
    }

    private static void noHops() {
        ChordOverlay x = Checks.ring(10, 40);
        checks.same("hops(10, 11)", x.hops(10, 11), 0);
        checks.same("hops(10, 40)", x.hops(10, 40), 0);
        checks.same("hops(10, 41)", x.hops(10, 41), 1);
        checks.same("hops(10, 10)", x.hops(10, 10), 1);
        checks.same("hops(0, 0) of one node", Checks.alone(0).hops(0, 0), 0);
    }

    /** Each hop covers the greatest power of two that ends before the key. */
    private static void hopsInFullRing() {
        ChordOverlay x = Checks.ring(Checks.upward(64));
        for (int from : new int[] {0, 31, 63}) {
            for (int steps = 1; steps <= 64; steps++) {
                int key = (from + steps) % 64;
                checks.same("hops(" + from + ", " + key + ")", x.hops(from, key), Integer.bitCount(steps - 1));
            }
        }
    }

    private static void hopsFromTheFirst() {
        ChordOverlay x = Checks.ring(0, 8, 16, 24, 32, 48);
        checks.same("hopAt(0, 0, 0)", x.hopAt(0, 0, 0), 0);
        checks.same("hopAt(0, 0, 1)", x.hopAt(0, 0, 1), 32);
        checks.same("hopAt(0, 0, 2)", x.hopAt(0, 0, 2), 48);
        checks.same("hopAt(48, 49, 0), of no hops", x.hopAt(48, 49, 0), 48);
        checks.same("hopAt(63, 5, 0) of one node", Checks.alone(63).hopAt(63, 5, 0), 63);
    }

    private static void hopsBelow0() {
        ChordOverlay x = Checks.ring(0, 8, 16, 24, 32, 48);
        for (int hop : new int[] {-1, -2, -64, Integer.MIN_VALUE}) {
            checks.noSuchHop("hopAt(0, 0, " + hop + ")", () -> x.hopAt(0, 0, hop));
            checks.noSuchHop("hopAt(0, 1, " + hop + "), of no hops", () -> x.hopAt(0, 1, hop));
        }
    }

    /** What is found is no hop; nor is a hop left over from a longer lookup. */
    private static void hopsTooMany() {
        ChordOverlay x = Checks.ring(0, 8, 16, 24, 32, 48);
        checks.noSuchHop("hopAt(0, 0, 3)", () -> x.hopAt(0, 0, 3));
        checks.noSuchHop("hopAt(0, 1, 1), of no hops", () -> x.hopAt(0, 1, 1));
        checks.noSuchHop("hopAt(0, 9, 2), of one hop", () -> x.hopAt(0, 9, 2));
        checks.noSuchHop("hopAt(0, 0, 64)", () -> x.hopAt(0, 0, 64));
        checks.noSuchHop("hopAt(0, 0, greatest int)", () -> x.hopAt(0, 0, Integer.MAX_VALUE));
        ChordOverlay far = chain();
        checks.same("hopAt(0, 0, 63) of 63 hops", far.hopAt(0, 0, 63), 63);
        checks.noSuchHop("hopAt(0, 0, 64) of 63 hops", () -> far.hopAt(0, 0, 64));
        checks.noSuchHop("hopAt(63, 63, 64) of 63 hops", () -> far.hopAt(63, 63, 64));
    }
}
