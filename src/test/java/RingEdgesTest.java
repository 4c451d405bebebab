/**
 * The ring as it is, from no node to all 64: the edges that the document names under "Terms" for the
 * ring, in promises 24 to 26, and for how long an object is used. Each test stands under the sentence
 * that it holds.
 */
public final class RingEdgesTest {
    private static final Checks checks = new Checks("RingEdgesTest");
    private static final int[] SIX = {0, 8, 16, 24, 32, 48};

    public static void main(String[] args) {
        owner();
        wrongPointers();
        roundsToRight();
        checks.edge("An object is used for at most 512 calls: puts", RingEdgesTest::manyPuts);
        checks.edge("An object is used for at most 512 calls: rounds of 64", RingEdgesTest::manyRounds);
        checks.edge("An object is used for at most 512 calls: lives", RingEdgesTest::manyLives);
        checks.tell();
    }

    private static void owner() {
        checks.edge("met when going up from the key itself", RingEdgesTest::ownerOfItsOwnKey);
        checks.edge("met when going up around the circle", RingEdgesTest::ownersOfTwo);
        checks.edge("the first living node", RingEdgesTest::ownerThatLives);
        checks.edge("Returns the owner of a key, of one node and of 64", RingEdgesTest::ownersOfOneAndAll);
        checks.edge("-1 if no node lives", RingEdgesTest::ownerOfNobody);
    }

    private static void wrongPointers() {
        checks.edge("wrongPointers: no node lives", RingEdgesTest::wrongOfNobody);
        checks.edge("met going up from the node's identifier + 1: itself, alone", RingEdgesTest::wrongOfOne);
        checks.edge("met going up and down, past 63 and 0", RingEdgesTest::wrongOfTheEnds);
        checks.edge("their live successors", RingEdgesTest::wrongLiveSuccessors);
        checks.edge("predecessors (also none is wrong)", RingEdgesTest::wrongPredecessors);
        checks.edge("and fingers (also unknown ones are)", RingEdgesTest::wrongFingers);
        checks.edge("eight for each node: 0 of 512", RingEdgesTest::rightInFullRing);
        checks.edge("eight for each node: 512 of 512", RingEdgesTest::allWrongInFullRing);
    }

    private static void roundsToRight() {
        checks.edge("most: 1 to 30", RingEdgesTest::leastAndGreatestMost);
        checks.edge("0 if none is now", RingEdgesTest::rightNow);
        checks.edge("Returns 0 to most; -1 if some are wrong even then", RingEdgesTest::justEnoughRounds);
        checks.edge("-1 if some are wrong even then: for ever", RingEdgesTest::neverRight);
        checks.edge("if nothing else happened", RingEdgesTest::lookingAheadChangesNothing);
    }

    // ---- promise 24

    private static void ownerOfItsOwnKey() {
        ChordOverlay x = Checks.joined(0, 31, 63);
        checks.same("owner(0)", x.owner(0), 0);
        checks.same("owner(31)", x.owner(31), 31);
        checks.same("owner(63)", x.owner(63), 63);
        checks.same("owner(1)", x.owner(1), 31);
        checks.same("owner(32)", x.owner(32), 63);
        checks.same("owner(62)", x.owner(62), 63);
    }

    private static void ownersOfTwo() {
        int[][] pairs = {{10, 40}, {0, 63}, {62, 63}, {0, 1}, {31, 32}, {1, 62}};
        for (int[] pair : pairs) {
            ChordOverlay x = Checks.joined(pair);
            for (int key = 0; key < 64; key++) {
                int due = Checks.met(key, pair[0], pair[1]) ? pair[1] : pair[0];
                checks.same("owner(" + key + ") of " + pair[0] + " and " + pair[1], x.owner(key), due);
            }
        }
    }

    private static void ownerThatLives() {
        ChordOverlay x = Checks.ring(SIX);
        x.fail(48);
        checks.same("owner(48), dead", x.owner(48), 0);
        checks.same("owner(33)", x.owner(33), 0);
        x.leave(0);
        checks.same("owner(48), 0 dead too", x.owner(48), 8);
        checks.same("owner(0)", x.owner(0), 8);
        x.join(48, 8);
        checks.same("owner(48), lives again", x.owner(48), 48);
    }

    private static void ownersOfOneAndAll() {
        for (int node : new int[] {0, 31, 63}) {
            ChordOverlay x = Checks.alone(node);
            for (int key = 0; key < 64; key++) {
                checks.same("owner(" + key + ") of " + node, x.owner(key), node);
            }
        }
        ChordOverlay full = Checks.joined(Checks.upward(64));
        for (int key = 0; key < 64; key++) {
            checks.same("owner(" + key + ") of 64", full.owner(key), key);
        }
    }

    private static void ownerOfNobody() {
        ChordOverlay x = new ChordOverlay();
        checks.same("owner(0), new", x.owner(0), -1);
        checks.same("owner(63), new", x.owner(63), -1);
        x.create(0);
        x.join(63, 0);
        x.fail(0);
        x.leave(63);
        checks.same("owner(0), all gone", x.owner(0), -1);
        checks.same("owner(63), all gone", x.owner(63), -1);
        x.create(5);
        checks.same("owner(63), one again", x.owner(63), 5);
    }

    // ---- promise 25

    private static void wrongOfNobody() {
        ChordOverlay x = new ChordOverlay();
        checks.same("new", x.wrongPointers(), 0);
        x.create(0);
        x.fail(0);
        checks.same("after the last failed", x.wrongPointers(), 0);
        x.create(63);
        x.leave(63);
        checks.same("after the last left", x.wrongPointers(), 0);
    }

    private static void wrongOfOne() {
        for (int node : new int[] {0, 1, 31, 62, 63}) {
            ChordOverlay x = Checks.alone(node);
            checks.same("its successor alone is right", x.wrongPointers(), 7);
            x.stabilize(node);
            checks.same("its predecessor, too, is itself", x.wrongPointers(), 6);
            x.fix(node);
            checks.same("its fingers are", x.wrongPointers(), 0);
        }
    }

    private static void wrongOfTheEnds() {
        checks.same("0 and 63", Checks.ring(0, 63).wrongPointers(), 0);
        checks.same("62, 63, 0 and 1", Checks.ring(62, 63, 0, 1).wrongPointers(), 0);
        ChordOverlay x = Checks.ring(0, 1, 62);
        x.join(63, 0);
        // Of 63 all but its successor; the successor of 62, and its finger to 63; the predecessor of 0.
        checks.same("with 63 between", x.wrongPointers(), 7 + 1 + 1 + 1);
        ChordOverlay y = Checks.ring(1, 62, 63);
        y.join(0, 1);
        // Of 0 all but its successor; the successor of 63, and its finger to 0; the predecessor of 1;
        // the finger of 62 to 0.
        checks.same("with 0 between", y.wrongPointers(), 7 + 1 + 1 + 1 + 1);
    }

    /** A dead first successor is no fault, if the next one is the right one. */
    private static void wrongLiveSuccessors() {
        ChordOverlay x = Checks.ring(SIX);
        x.fail(8);
        // The predecessor of 16, and the fingers of 0 to 1, 2, 4 and 8.
        checks.same("one dead", x.wrongPointers(), 5);
        x.fix(0);
        x.stabilize(0);
        checks.same("mended", x.wrongPointers(), 0);
        x.fail(16);
        x.fail(24);
        x.fail(32);
        x.check(48);
        // 0 knows 16, 24 and 32 alone: its successor and the fingers to 1, 2, 4, 8, 16 and 32. The
        // predecessor of 48, and its finger to 16.
        checks.same("none lives that 0 knows", x.wrongPointers(), 7 + 2);
    }

    private static void wrongPredecessors() {
        ChordOverlay x = Checks.ring(0, 32);
        checks.same("both right", x.wrongPointers(), 0);
        x.join(8, 0);
        x.stabilize(8);
        x.fix(8);
        x.stabilize(0);
        x.fix(0);
        x.stabilize(8);
        x.fix(8);
        checks.same("three right", x.wrongPointers(), 0);
        x.fail(8);
        x.stabilize(0);
        x.fix(0);
        checks.same("two right", x.wrongPointers(), 0);
        x.fail(32);
        x.join(32, 0);
        x.stabilize(32);
        x.fix(32);
        checks.same("none is wrong", x.predecessor(32), -1);
        checks.same("only that", x.wrongPointers(), 1);
        x.stabilize(0);
        checks.same("mended", x.wrongPointers(), 0);
        x.fail(0);
        x.join(0, 32);
        x.stabilize(0);
        x.fix(0);
        checks.same("the predecessor of 0 alone", x.wrongPointers(), 1);
    }

    private static void wrongFingers() {
        for (int node : new int[] {0, 63}) {
            ChordOverlay x = Checks.alone(node);
            x.stabilize(node);
            checks.same("unknown ones", x.wrongPointers(), 6);
        }
        ChordOverlay x = Checks.ring(SIX);
        x.join(33, 0);
        x.stabilize(33);
        x.stabilize(32);
        x.fix(33);
        // Of 32 the finger to 33. Of 33 none; the fingers to 33 of others are none.
        checks.same("the first finger", x.wrongPointers(), 1);
        x.fix(32);
        checks.same("mended", x.wrongPointers(), 0);
        ChordOverlay last = Checks.ring(SIX);
        last.fail(16);
        last.join(16, 0);
        last.stabilize(16);
        last.stabilize(8);
        last.fix(16);
        checks.same("fingers that live again are right", last.wrongPointers(), 0);
    }

    private static void rightInFullRing() {
        ChordOverlay x = Checks.ring(Checks.upward(64));
        checks.same("wrongPointers()", x.wrongPointers(), 0);
        checks.same("goRounds(1)", x.goRounds(1), 0);
        x.fail(63);
        // 62: the finger to 63; 0: the predecessor; and the fingers to 63 of 61, 59, 55, 47 and 31.
        checks.same("without 63", x.wrongPointers(), 7);
    }

    /** 9 and 39 joined while 10 and 40 were dead; all others know but 10 or 40. */
    private static void allWrongInFullRing() {
        ChordOverlay x = Checks.joined(10, 40);
        x.stabilize(40);
        x.stabilize(10);
        x.stabilize(40);
        x.fail(40);
        x.join(39, 10);
        x.join(40, 10);
        x.fail(10);
        x.join(9, 40);
        x.join(10, 40);
        for (int node = 0; node < 64; node++) {
            if (!x.isLiving(node)) {
                x.join(node, 10);
            }
        }
        checks.same("living()", x.living(), 64);
        checks.same("liveSuccessor(9)", x.liveSuccessor(9), 40);
        checks.same("liveSuccessor(39)", x.liveSuccessor(39), 10);
        checks.same("liveSuccessor(63)", x.liveSuccessor(63), 10);
        checks.same("wrongPointers()", x.wrongPointers(), 512);
    }

    // ---- promise 26

    private static void leastAndGreatestMost() {
        ChordOverlay x = Checks.alone(0);
        checks.same("roundsToRight(1)", x.roundsToRight(1), 1);
        checks.same("roundsToRight(30)", x.roundsToRight(30), 1);
        checks.outOfRange("roundsToRight(0)", () -> x.roundsToRight(0));
        checks.outOfRange("roundsToRight(31)", () -> x.roundsToRight(31));
        checks.outOfRange("roundsToRight(0) of nobody", () -> new ChordOverlay().roundsToRight(0));
        checks.outOfRange("roundsToRight(31) of nobody", () -> new ChordOverlay().roundsToRight(31));
    }

    private static void rightNow() {
        for (int most : new int[] {1, 2, 29, 30}) {
            checks.same("of nobody", new ChordOverlay().roundsToRight(most), 0);
            checks.same("of two", Checks.ring(0, 63).roundsToRight(most), 0);
        }
        checks.same("of 64", Checks.ring(Checks.upward(64)).roundsToRight(1), 0);
        ChordOverlay one = Checks.alone(63);
        one.goRounds(1);
        checks.same("of one", one.roundsToRight(1), 0);
        ChordOverlay all = Checks.alone(0);
        all.fix(0);
        checks.same("wrongPointers(), its predecessor", all.wrongPointers(), 1);
        checks.same("of one, with a wrong pointer", all.roundsToRight(1), 1);
    }

    /** Of nodes that know but the first one, a round teaches the first one but one more. */
    private static void justEnoughRounds() {
        for (int nodes = 2; nodes <= 30; nodes++) {
            ChordOverlay x = Checks.joined(Checks.upward(nodes));
            checks.same("most is enough for " + nodes, x.roundsToRight(nodes), nodes);
            checks.same("one too few for " + nodes, x.roundsToRight(nodes - 1), -1);
            checks.same("30 for " + nodes, x.roundsToRight(30), nodes);
        }
        ChordOverlay x = Checks.joined(Checks.upward(31));
        checks.same("31 are needed", x.roundsToRight(30), -1);
        x.goRounds(1);
        checks.same("30 are left", x.roundsToRight(30), 30);
        checks.same("29 are too few", x.roundsToRight(29), -1);
        x.goRounds(20);
        checks.same("10 are left", x.roundsToRight(10), 10);
        checks.same("wrong after 9 more", x.goRounds(9) > 0, true);
        checks.same("1 is left", x.roundsToRight(1), 1);
        checks.same("goRounds(1)", x.goRounds(1), 0);
        checks.same("none is left", x.roundsToRight(1), 0);
    }

    private static void neverRight() {
        ChordOverlay x = Checks.ring(0, 8, 16, 24, 32, 40, 48, 56);
        for (int node : new int[] {8, 16, 24, 40, 48, 56}) {
            x.fail(node);
        }
        checks.same("roundsToRight(1)", x.roundsToRight(1), -1);
        checks.same("roundsToRight(30)", x.roundsToRight(30), -1);
        checks.same("goRounds(20)", x.goRounds(20) > 0, true);
        checks.same("roundsToRight(30) then", x.roundsToRight(30), -1);
    }

    /** All that can be asked is as before, and what comes later goes on from there. */
    private static void lookingAheadChangesNothing() {
        compareOneThatLooksAhead(halfMended(), halfMended(), 0, 8, 12, 16, 24, 32, 48);
        int[] ends = {63, 0, 1, 31, 32, 61, 62};
        compareOneThatLooksAhead(Checks.joined(ends), Checks.joined(ends), ends);
    }

    private static void compareOneThatLooksAhead(ChordOverlay asked, ChordOverlay same, int... nodes) {
        int[] keys = {0, 20, 63};
        checks.same("roundsToRight(1)", asked.roundsToRight(1), -1);
        checks.same("roundsToRight(30)", asked.roundsToRight(30) > 1, true);
        checks.same("all that is known", Checks.told(asked, nodes, keys), Checks.told(same, nodes, keys));
        checks.same("put(0, 20, 1)", asked.put(0, 20, 1), same.put(0, 20, 1));
        checks.same("goRounds(1)", asked.goRounds(1), same.goRounds(1));
        checks.same("a round later", Checks.told(asked, nodes, keys), Checks.told(same, nodes, keys));
    }

    private static ChordOverlay halfMended() {
        ChordOverlay x = Checks.ring(SIX);
        x.put(0, 20, 5);
        x.put(0, 63, 6);
        x.put(0, 0, 7);
        x.fail(24);
        x.join(12, 0);
        x.join(24, 8);
        return x;
    }

    // ---- how long an object is used

    private static void manyPuts() {
        ChordOverlay x = Checks.alone(0);
        for (int call = 2; call <= 511; call++) {
            x.put(0, 5, call);
        }
        checks.same("the 512th call: get(0, 5)", x.get(0, 5), 511);
    }

    private static void manyRounds() {
        ChordOverlay x = Checks.joined(Checks.upward(64));
        for (int key = 0; key < 64; key++) {
            x.put(63 - key, key, key);
        }
        for (int call = 129; call <= 510; call += 2) {
            x.goRounds(20);
            x.roundsToRight(30);
        }
        checks.same("the 511th call: wrongPointers()", x.wrongPointers(), 0);
        checks.same("the 512th call: get(0, 63)", x.get(0, 63), 63);
    }

    private static void manyLives() {
        ChordOverlay x = new ChordOverlay();
        for (int call = 1; call <= 508; call += 4) {
            checks.same("create", x.create(call % 64), 1);
            x.join((call + 1) % 64, call % 64);
            checks.same("leave", x.leave(call % 64), 1);
            checks.same("fail", x.fail((call + 1) % 64), 0);
        }
        checks.same("the 509th call: create(63)", x.create(63), 1);
        checks.same("the 510th call: join(0, 63)", x.join(0, 63), 63);
        checks.same("the 511th call: goRounds(20)", x.goRounds(20), 0);
        checks.same("the 512th call: living()", x.living(), 2);
    }
}
