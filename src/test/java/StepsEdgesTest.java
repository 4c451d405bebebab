/**
 * Where the steps of stabilization turn: the edges that the document names under "Terms" for them and in
 * promises 12 to 16. Each test stands under the sentence that it holds.
 */
public final class StepsEdgesTest {
    private static final Checks checks = new Checks("StepsEdgesTest");
    private static final int[] SIX = {0, 8, 16, 24, 32, 48};

    /** A node, the one before it and the one after it; their stretches are long, short, or past 63. */
    private static final int[][] TRIANGLES = {
        {8, 16, 24}, {63, 0, 32}, {62, 63, 0}, {0, 1, 2}, {31, 63, 0}, {40, 20, 21}, {2, 0, 1},
    };

    public static void main(String[] args) {
        check();
        stabilize();
        fix();
        replicate();
        rounds();
        checks.tell();
    }

    private static void check() {
        checks.edge("if its predecessor lives no more, it has none", StepsEdgesTest::checkOfTheDead);
        checks.edge("if its predecessor lives no more: one that lives again", StepsEdgesTest::checkOfOneThatLivesAgain);
        checks.edge("Returns whether it has a predecessor then.", StepsEdgesTest::checkAnswers);
    }

    private static void stabilize() {
        checks.edge("with s for its live successor", StepsEdgesTest::pastDeadSuccessors);
        checks.edge("if there is such an x", StepsEdgesTest::noX);
        checks.edge("it lives", StepsEdgesTest::deadX);
        checks.edge("and lies in (n, s): the first and the last one", StepsEdgesTest::firstAndLastX);
        checks.edge("and lies in (n, s): neither n nor s", StepsEdgesTest::xAtTheEnds);
        checks.edge("and lies in (n, s): nor one outside", StepsEdgesTest::xOutside);
        checks.edge("and lies in (n, s), past 63", StepsEdgesTest::xPastTheEnd);
        checks.edge("and lies in (n, s): of n itself, all but n", StepsEdgesTest::xOfItself);
        checks.edge("the first two successors of s as s knows them", StepsEdgesTest::successorsAsKnown);
        checks.edge("Then s is notified, also if it is n", StepsEdgesTest::notifiesItself);
        checks.edge("its predecessor becomes n, if it has none", StepsEdgesTest::notifiesOneWithNone);
        checks.edge("or that lives no more", StepsEdgesTest::notifiesOneWithADeadOne);
        checks.edge("or n lies in (its predecessor, s)", StepsEdgesTest::notifiesOneWithAnother);
        checks.edge("n lies in (its predecessor, s), past 63", StepsEdgesTest::notifiesPastTheEnd);
        checks.edge("n lies in (its predecessor, s): s as its own", StepsEdgesTest::notifiesItsOwnPredecessor);
        checks.edge("Returns its first successor then.", StepsEdgesTest::stabilizeAnswers);
    }

    private static void fix() {
        checks.edge("for i from 0 to 5, n + 2 to the power of i, modulo 64", StepsEdgesTest::fingersPastTheEnd);
        checks.edge("for i from 0 to 5, each by those before it", StepsEdgesTest::fingersInOrder);
        checks.edge("what a lookup from n finds", StepsEdgesTest::fingersByWhatIsKnown);
        checks.edge("Returns how many fingers are others than before: 0 to 6", StepsEdgesTest::fixAnswers);
    }

    private static void replicate() {
        checks.edge("for each key of which n keeps a value", StepsEdgesTest::eachKeyOrNone);
        checks.edge("the key does not lie in (its predecessor, n]", StepsEdgesTest::ownAndOthersKeys);
        checks.edge("does not lie in (its predecessor, n]: its own predecessor", StepsEdgesTest::allKeysOfItsOwnPredecessor);
        checks.edge("what a lookup from n for the key finds", StepsEdgesTest::othersKeysByWhatIsKnown);
        checks.edge("if n has a predecessor: it has none", StepsEdgesTest::allKeysWithoutPredecessor);
        checks.edge("if n has a predecessor: a dead one", StepsEdgesTest::keysByADeadPredecessor);
        checks.edge("the first two of its successors that live", StepsEdgesTest::firstTwoThatLive);
        checks.edge("and are not n", StepsEdgesTest::notItself);
        checks.edge("the same one counted once", StepsEdgesTest::theSameOnce);
        checks.edge("Returns how many copies were kept: 0 to 128", StepsEdgesTest::replicateAnswers);
    }

    private static void rounds() {
        checks.edge("rounds: 1 to 20", StepsEdgesTest::oneAndTwentyRounds);
        checks.edge("does all four steps, in this order", StepsEdgesTest::fourStepsInOrder);
        checks.edge("In a round each node that lives", StepsEdgesTest::theDeadDoNothing);
        checks.edge("In a round each node that lives: none, or all 64", StepsEdgesTest::noneAndAll);
        checks.edge("by rising identifiers", StepsEdgesTest::from0To63);
        checks.edge("by what nodes know at that moment", StepsEdgesTest::nodeByNode);
        checks.edge("IllegalStateException if it does not live", StepsEdgesTest::stepsOfTheDead);
    }

    // ---- promise 12

    private static void checkOfTheDead() {
        ChordOverlay x = Checks.ring(SIX);
        x.fail(0);
        x.fail(48);
        checks.same("check(8)", x.check(8), false);
        checks.same("known of 8", Checks.known(x, 8), "16 24 32 | -1 | 16 16 16 16 24 48");
        checks.same("known of 16, that did not check", Checks.known(x, 16), "24 32 48 | 8 | 24 24 24 24 32 48");
        x.join(63, 8);
        x.leave(63);
        checks.same("check(8) of one that was gone already", x.check(8), false);
    }

    private static void checkOfOneThatLivesAgain() {
        ChordOverlay x = Checks.ring(0, 31, 63);
        x.fail(63);
        x.join(63, 31);
        checks.same("check(0)", x.check(0), true);
        checks.same("predecessor(0)", x.predecessor(0), 63);
        x.fail(63);
        checks.same("check(0) after failing again", x.check(0), false);
        x.join(63, 31);
        checks.same("check(0), given up", x.check(0), false);
    }

    private static void checkAnswers() {
        ChordOverlay x = Checks.ring(0, 63);
        checks.same("check(0), 63", x.check(0), true);
        checks.same("check(63), 0", x.check(63), true);
        checks.same("predecessor(63) stays", x.predecessor(63), 0);
        ChordOverlay alone = Checks.alone(0);
        checks.same("check(0), none", alone.check(0), false);
        alone.stabilize(0);
        checks.same("check(0), itself", alone.check(0), true);
        checks.same("predecessor(0)", alone.predecessor(0), 0);
    }

    // ---- promise 13

    private static void pastDeadSuccessors() {
        ChordOverlay x = Checks.ring(SIX);
        x.fail(8);
        checks.same("stabilize(0), one dead", x.stabilize(0), 16);
        checks.same("successors of 0", Checks.successors(x, 0), "16 24 32");
        x.fail(16);
        x.fail(24);
        checks.same("stabilize(0), two dead", x.stabilize(0), 32);
        checks.same("successors of 0, of the third", Checks.successors(x, 0), "32 48 0");
        checks.same("predecessor(32)", x.predecessor(32), 0);
    }

    private static void noX() {
        ChordOverlay x = Checks.joined(10, 40);
        checks.same("stabilize(40)", x.stabilize(40), 10);
        checks.same("successors of 40", Checks.successors(x, 40), "10 10 10");
        ChordOverlay zero = Checks.ring(0, 8);
        zero.fail(0);
        zero.check(8);
        zero.join(63, 8);
        zero.join(0, 8);
        checks.same("predecessor(8)", zero.predecessor(8), -1);
        checks.same("stabilize(63): none is not the node 0", zero.stabilize(63), 8);
        checks.same("predecessor(8) then", zero.predecessor(8), 63);
    }

    private static void deadX() {
        ChordOverlay x = Checks.ring(SIX);
        x.join(12, 0);
        x.stabilize(12);
        x.fail(12);
        checks.same("predecessor(16), dead", x.predecessor(16), 12);
        checks.same("stabilize(8)", x.stabilize(8), 16);
        checks.same("successors of 8", Checks.successors(x, 8), "16 24 32");
        ChordOverlay again = Checks.ring(SIX);
        again.join(12, 0);
        again.stabilize(12);
        again.fail(12);
        again.join(12, 0);
        checks.same("stabilize(8), it lives again", again.stabilize(8), 12);
    }

    private static void firstAndLastX() {
        int[][] between = {{10, 11, 40}, {10, 39, 40}, {0, 1, 63}, {0, 62, 63}, {10, 11, 12}};
        for (int[] three : between) {
            ChordOverlay x = Checks.ring(three[0], three[2]);
            x.join(three[1], three[0]);
            x.stabilize(three[1]);
            checks.same("stabilize(" + three[0] + ")", x.stabilize(three[0]), three[1]);
            checks.same("predecessor(" + three[1] + ")", x.predecessor(three[1]), three[0]);
        }
    }

    /** Either would be taken with its own successors, and so change the second one. */
    private static void xAtTheEnds() {
        ChordOverlay n = Checks.ring(SIX);
        checks.same("stabilize(0), x is 0", n.stabilize(0), 8);
        checks.same("known of 0", Checks.known(n, 0), "8 16 24 | 48 | 8 8 8 8 16 32");
        ChordOverlay s = Checks.alone(10);
        s.stabilize(10);
        s.join(40, 10);
        checks.same("predecessor(10)", s.predecessor(10), 10);
        checks.same("stabilize(40), x is 10", s.stabilize(40), 10);
        checks.same("successors of 40", Checks.successors(s, 40), "10 10 10");
    }

    private static void xOutside() {
        ChordOverlay x = Checks.ring(0, 16);
        x.join(8, 0);
        checks.same("stabilize(8), x before n", x.stabilize(8), 16);
        ChordOverlay near = Checks.ring(1, 32);
        near.join(0, 32);
        checks.same("stabilize(0): (0, 1) is empty", near.stabilize(0), 1);
        checks.same("predecessor(1)", near.predecessor(1), 0);
        ChordOverlay last = Checks.ring(0, 32);
        last.join(63, 0);
        checks.same("stabilize(63): (63, 0) is empty", last.stabilize(63), 0);
        checks.same("predecessor(0)", last.predecessor(0), 63);
    }

    private static void xPastTheEnd() {
        int[] between = {57, 62, 63, 0, 1, 7};
        for (int node : between) {
            ChordOverlay x = Checks.ring(8, 56);
            checks.same("join(" + node + ", 8)", x.join(node, 8), 8);
            checks.same("stabilize(" + node + "), x before it", x.stabilize(node), 8);
            checks.same("stabilize(56), x is " + node, x.stabilize(56), node);
        }
    }

    private static void xOfItself() {
        for (int node : new int[] {0, 1, 9, 11, 63}) {
            ChordOverlay x = Checks.joined(10, node);
            x.stabilize(node);
            checks.same("stabilize(10), x is " + node, x.stabilize(10), node);
            checks.same("successors of 10", Checks.successors(x, 10), node + " 10 10");
        }
        ChordOverlay alone = Checks.alone(10);
        checks.same("stabilize(10), no x", alone.stabilize(10), 10);
        checks.same("stabilize(10), x is 10", alone.stabilize(10), 10);
    }

    private static void successorsAsKnown() {
        ChordOverlay x = Checks.ring(SIX);
        x.fail(24);
        x.stabilize(0);
        checks.same("with a dead one", Checks.successors(x, 0), "8 16 24");
        ChordOverlay two = Checks.ring(0, 63);
        two.stabilize(0);
        checks.same("with n itself", Checks.successors(two, 0), "63 0 63");
        ChordOverlay past = Checks.ring(SIX);
        past.fail(0);
        past.stabilize(48);
        checks.same("past 63", Checks.successors(past, 48), "8 16 24");
    }

    /** With s the node itself, its own first two move up a place, as they were. */
    private static void notifiesItself() {
        ChordOverlay x = Checks.alone(0);
        checks.same("stabilize(0)", x.stabilize(0), 0);
        checks.same("known of 0", Checks.known(x, 0), "0 0 0 | 0 | -1 -1 -1 -1 -1 -1");
        ChordOverlay y = Checks.ring(0, 8, 16, 24);
        y.fail(8);
        y.fail(16);
        y.fail(24);
        checks.same("stabilize(0), all dead", y.stabilize(0), 0);
        checks.same("successors of 0", Checks.successors(y, 0), "0 8 16");
        checks.same("predecessor(0)", y.predecessor(0), 0);
    }

    private static void notifiesOneWithNone() {
        ChordOverlay x = Checks.joined(10, 40);
        x.stabilize(40);
        checks.same("predecessor(10)", x.predecessor(10), 40);
        checks.same("predecessor(40), which nobody notified", x.predecessor(40), -1);
        ChordOverlay zero = Checks.joined(63, 0);
        zero.stabilize(0);
        checks.same("predecessor(63)", zero.predecessor(63), 0);
    }

    private static void notifiesOneWithADeadOne() {
        ChordOverlay x = Checks.ring(SIX);
        x.fail(16);
        checks.same("stabilize(8)", x.stabilize(8), 24);
        checks.same("predecessor(24), farther than the dead 16", x.predecessor(24), 8);
        ChordOverlay y = Checks.ring(SIX);
        y.fail(0);
        checks.same("stabilize(48)", y.stabilize(48), 8);
        checks.same("predecessor(8), farther than the dead 0", y.predecessor(8), 48);
    }

    private static void notifiesOneWithAnother() {
        int[] nodes = {1, 8, 15};
        for (int node : nodes) {
            ChordOverlay x = Checks.ring(0, 16);
            x.join(node, 0);
            x.stabilize(node);
            checks.same("predecessor(16), nearer", x.predecessor(16), node);
            x.stabilize(node);
            checks.same("predecessor(16), the same", x.predecessor(16), node);
        }
        ChordOverlay far = Checks.ring(0, 16);
        far.join(8, 0);
        far.stabilize(8);
        far.join(4, 0);
        checks.same("stabilize(4), by 16", far.stabilize(4), 8);
        checks.same("stabilize(0), by 16", far.stabilize(0), 8);
        checks.same("predecessor(8), nearer than 0", far.predecessor(8), 4);
    }

    private static void notifiesPastTheEnd() {
        for (int node : new int[] {57, 63, 0, 7}) {
            ChordOverlay x = Checks.ring(8, 56);
            x.join(node, 56);
            x.stabilize(node);
            checks.same("predecessor(8), nearer", x.predecessor(8), node);
        }
        ChordOverlay ends = Checks.ring(0, 32);
        ends.join(63, 0);
        ends.stabilize(63);
        checks.same("predecessor(0)", ends.predecessor(0), 63);
        ends.join(1, 0);
        ends.stabilize(1);
        checks.same("predecessor(32)", ends.predecessor(32), 1);
        ChordOverlay far = Checks.ring(40, 8);
        far.join(0, 40);
        far.stabilize(0);
        far.join(60, 40);
        checks.same("stabilize(60), by 8", far.stabilize(60), 0);
        checks.same("stabilize(40), by 8", far.stabilize(40), 0);
        checks.same("predecessor(0), nearer than 40", far.predecessor(0), 60);
    }

    /** A node that is its own predecessor takes any other that notifies it. */
    private static void notifiesItsOwnPredecessor() {
        for (int node : new int[] {0, 9, 11, 63}) {
            ChordOverlay x = Checks.alone(10);
            x.stabilize(10);
            x.join(node, 10);
            x.stabilize(node);
            checks.same("predecessor(10)", x.predecessor(10), node);
        }
    }

    private static void stabilizeAnswers() {
        checks.same("stabilize(0) alone", Checks.alone(0).stabilize(0), 0);
        checks.same("stabilize(63) alone", Checks.alone(63).stabilize(63), 63);
        ChordOverlay x = Checks.ring(0, 63);
        checks.same("stabilize(63)", x.stabilize(63), 0);
        checks.same("stabilize(0)", x.stabilize(0), 63);
    }

    // ---- promise 14

    private static void fingersPastTheEnd() {
        ChordOverlay x = Checks.ring(0, 31, 32, 63);
        for (int node : new int[] {0, 31, 32, 63}) {
            x.fix(node);
        }
        checks.same("fingers of 0", Checks.fingers(x, 0), "31 31 31 31 31 32");
        checks.same("fingers of 31: the last one to 63", Checks.fingers(x, 31), "32 63 63 63 63 63");
        checks.same("fingers of 32: the last one to 0", Checks.fingers(x, 32), "63 63 63 63 63 0");
        checks.same("fingers of 63: the first one to 0", Checks.fingers(x, 63), "0 31 31 31 31 31");
        ChordOverlay full = Checks.ring(Checks.upward(64));
        checks.same("fingers of 63 among 64", Checks.fingers(full, 63), "0 1 3 7 15 31");
        checks.same("fingers of 62 among 64", Checks.fingers(full, 62), "63 0 2 6 14 30");
        checks.same("fingers of 0 among 64", Checks.fingers(full, 0), "1 2 4 8 16 32");
    }

    /**
     * 4, the successor of 0, knows no living node, so what goes by 4 finds 4. A lookup from 0 for 16 or 32
     * goes by the finger 8, and finds 0, until 4 has taken that finger's place.
     */
    private static void fingersInOrder() {
        ChordOverlay x = Checks.ring(0, 5, 6, 7, 8);
        x.join(4, 0);
        x.stabilize(4);
        x.stabilize(0);
        for (int node : new int[] {5, 6, 7}) {
            x.fail(node);
        }
        checks.same("fingers of 0 before", Checks.fingers(x, 0), "5 5 5 8 0 0");
        checks.same("way from 0 to 32 before", Checks.route(x, 0, 32), "0 8 > 0");
        checks.same("fix(0)", x.fix(0), 6);
        checks.same("fingers of 0", Checks.fingers(x, 0), "4 4 4 4 4 4");
    }

    /** 0 does not know 63 yet; and no finger of 63 is 63, though it owns what lies before it. */
    private static void fingersByWhatIsKnown() {
        ChordOverlay x = Checks.joined(0, 63);
        x.fix(0);
        checks.same("fingers of 0", Checks.fingers(x, 0), "0 0 0 0 0 0");
        x.fix(63);
        checks.same("fingers of 63", Checks.fingers(x, 63), "0 0 0 0 0 0");
    }

    private static void fixAnswers() {
        ChordOverlay x = Checks.alone(63);
        checks.same("fix(63), all unknown", x.fix(63), 6);
        checks.same("fix(63), all the same", x.fix(63), 0);
        ChordOverlay y = Checks.ring(SIX);
        y.fail(32);
        checks.same("fix(0): the finger 5", y.fix(0), 1);
        checks.same("fingers of 0", Checks.fingers(y, 0), "8 8 8 8 16 48");
        y.fail(8);
        checks.same("fix(0): the fingers 0 to 3", y.fix(0), 4);
        ChordOverlay again = Checks.ring(SIX);
        again.fail(32);
        again.join(32, 0);
        again.stabilize(24);
        checks.same("fix(0): one that lives again is no other", again.fix(0), 0);
    }

    // ---- promise 15

    private static int[] allKeys() {
        return Checks.upward(64);
    }

    /** Three nodes that know each other; the middle one alone keeps values, one for each of the keys. */
    private static ChordOverlay triangle(int[] nodes, int... keys) {
        ChordOverlay x = Checks.alone(nodes[1]);
        for (int key : keys) {
            x.put(nodes[1], key, key);
        }
        x.join(nodes[0], nodes[1]);
        x.join(nodes[2], nodes[1]);
        for (int i : new int[] {0, 1, 2, 1, 0}) {
            x.stabilize(nodes[i]);
        }
        return x;
    }

    private static void eachKeyOrNone() {
        checks.same("replicate(16) of no values", triangle(new int[] {8, 16, 24}).replicate(16), 0);
        for (int key : new int[] {0, 63}) {
            ChordOverlay x = triangle(new int[] {8, 16, 24}, key);
            checks.same("replicate(16) of the key " + key, x.replicate(16), 1);
            checks.same("kept(8, " + key + ")", x.kept(8, key), key);
            checks.same("kept(16, " + key + ")", x.kept(16, key), key);
            checks.same("kept(24, " + key + ")", x.kept(24, key), -1);
        }
        ChordOverlay own = triangle(new int[] {8, 16, 24}, 9, 16);
        checks.same("replicate(16) of its first and last key", own.replicate(16), 4);
    }

    private static void ownAndOthersKeys() {
        for (int[] nodes : TRIANGLES) {
            ChordOverlay x = triangle(nodes, allKeys());
            checks.same("predecessor(" + nodes[1] + ")", x.predecessor(nodes[1]), nodes[0]);
            checks.same("liveSuccessor(" + nodes[1] + ")", x.liveSuccessor(nodes[1]), nodes[2]);
            int own = (nodes[1] - nodes[0] + 64) % 64;
            checks.same("replicate(" + nodes[1] + ")", x.replicate(nodes[1]), 2 * own + 64 - own);
            for (int key = 0; key < 64; key++) {
                boolean owned = Checks.met(key, nodes[0], nodes[1]);
                boolean next = Checks.met(key, nodes[1], nodes[2]);
                checks.same("kept(" + nodes[2] + ", " + key + ")", x.kept(nodes[2], key), owned || next ? key : -1);
                checks.same("kept(" + nodes[0] + ", " + key + ")", x.kept(nodes[0], key), next ? -1 : key);
                checks.same("kept(" + nodes[1] + ", " + key + ")", x.kept(nodes[1], key), key);
            }
        }
    }

    private static void allKeysOfItsOwnPredecessor() {
        ChordOverlay x = Checks.ownPredecessor(allKeys());
        checks.same("predecessor(0)", x.predecessor(0), 0);
        checks.same("replicate(0)", x.replicate(0), 64);
        for (int key = 0; key < 64; key++) {
            checks.same("kept(40, " + key + ")", x.kept(40, key), key);
        }
    }

    /** By way of 8 the key 30 would be 32's; but 16 knows neither 24 nor 32 again, only 48. */
    private static void othersKeysByWhatIsKnown() {
        ChordOverlay x = Checks.alone(16);
        x.put(16, 30, 5);
        Checks.grow(x, 16, 0, 8, 24, 32, 48);
        for (int node : new int[] {24, 32, 48}) {
            x.fail(node);
        }
        x.join(48, 0);
        x.stabilize(16);
        for (int node : new int[] {32, 24}) {
            x.join(node, 16);
            x.stabilize(node);
        }
        checks.same("predecessor(16)", x.predecessor(16), 8);
        checks.same("way from 8", Checks.route(x, 8, 30), "8 24 > 32");
        checks.same("way from 16", Checks.route(x, 16, 30), "16 > 48");
        checks.same("replicate(16)", x.replicate(16), 1);
        checks.same("kept(48, 30)", x.kept(48, 30), 5);
        checks.same("kept(32, 30)", x.kept(32, 30), -1);
    }

    private static void allKeysWithoutPredecessor() {
        ChordOverlay x = triangle(new int[] {8, 16, 24}, 8, 9, 16, 17);
        x.fail(8);
        x.check(16);
        checks.same("predecessor(16)", x.predecessor(16), -1);
        x.join(8, 24);
        checks.same("replicate(16)", x.replicate(16), 8);
        for (int key : new int[] {8, 9, 16, 17}) {
            checks.same("kept(8, " + key + ")", x.kept(8, key), key);
            checks.same("kept(24, " + key + ")", x.kept(24, key), key);
        }
    }

    /** The dead 8 still tells 16 which keys are its own; 24 is found for the others. */
    private static void keysByADeadPredecessor() {
        ChordOverlay x = triangle(new int[] {8, 16, 24}, 8, 9, 16, 17);
        x.fail(8);
        checks.same("predecessor(16)", x.predecessor(16), 8);
        checks.same("replicate(16)", x.replicate(16), 3);
        checks.same("kept(24, 8): the lookup finds 16 itself", x.kept(24, 8), -1);
        checks.same("kept(24, 9)", x.kept(24, 9), 9);
        checks.same("kept(24, 16)", x.kept(24, 16), 16);
        checks.same("kept(24, 17)", x.kept(24, 17), 17);
    }

    private static void firstTwoThatLive() {
        ChordOverlay x = Checks.ring(SIX);
        x.put(0, 8, 5);
        x.fail(16);
        checks.same("replicate(8): the third one", x.replicate(8), 1);
        checks.same("kept(32, 8)", x.kept(32, 8), 5);
        x.fail(24);
        x.fail(32);
        checks.same("replicate(8): none lives", x.replicate(8), 0);
        checks.same("kept(48, 8)", x.kept(48, 8), -1);
        x.join(24, 0);
        checks.same("replicate(8): one that lives again", x.replicate(8), 1);
        checks.same("kept(24, 8)", x.kept(24, 8), 5);
        ChordOverlay three = Checks.ring(SIX);
        three.put(0, 8, 5);
        checks.same("replicate(8): the third one gets none", three.replicate(8), 0);
        checks.same("kept(32, 8)", three.kept(32, 8), -1);
    }

    /** Of the successors 0, 40, 0 of 0 only 40 is another node; of 40, 0, 20 the first and the third. */
    private static void notItself() {
        ChordOverlay x = Checks.ring(0, 40);
        x.fail(40);
        x.stabilize(0);
        checks.same("successors of 0", Checks.successors(x, 0), "0 40 0");
        x.put(0, 20, 5);
        x.join(40, 0);
        checks.same("replicate(0)", x.replicate(0), 1);
        checks.same("kept(40, 20)", x.kept(40, 20), 5);
        ChordOverlay between = Checks.ring(0, 20, 40);
        between.fail(20);
        between.stabilize(0);
        between.put(0, 60, 5);
        between.join(20, 0);
        checks.same("successors of 0, between", Checks.successors(between, 0), "40 0 20");
        checks.same("replicate(0), between", between.replicate(0), 1);
        checks.same("kept(20, 60)", between.kept(20, 60), 5);
        ChordOverlay alone = Checks.alone(0);
        alone.put(0, 20, 5);
        checks.same("replicate(0) alone", alone.replicate(0), 0);
    }

    private static void theSameOnce() {
        ChordOverlay x = Checks.oneTwice();
        checks.same("put(10, 8, 7)", x.put(10, 8, 7), 10);
        x.fail(20);
        x.fail(30);
        x.check(10);
        x.join(20, 10);
        x.join(30, 10);
        checks.same("known of 10", Checks.known(x, 10), "20 20 30 | -1 | -1 -1 -1 -1 -1 -1");
        checks.same("replicate(10)", x.replicate(10), 2);
        checks.same("kept(20, 8)", x.kept(20, 8), 7);
        checks.same("kept(30, 8)", x.kept(30, 8), 7);
        ChordOverlay two = triangle(new int[] {8, 16, 24}, 16);
        two.fail(24);
        two.stabilize(16);
        checks.same("successors of 16", Checks.successors(two, 16), "8 16 24");
        checks.same("replicate(16)", two.replicate(16), 1);
    }

    private static void replicateAnswers() {
        ChordOverlay x = triangle(new int[] {8, 16, 24}, allKeys());
        x.fail(8);
        x.check(16);
        x.join(8, 24);
        checks.same("replicate(16), two copies of each key", x.replicate(16), 128);
        checks.same("replicate(16) again, none kept", x.replicate(16), 0);
        checks.same("replicate(8), all are there", x.replicate(8), 0);
        checks.same("replicate(16) of nothing", Checks.ring(8, 16, 24).replicate(16), 0);
    }

    // ---- promise 16

    /** 30 nodes that know but the first one need 30 rounds, so no two of these tell the same. */
    private static void oneAndTwentyRounds() {
        ChordOverlay once = Checks.joined(Checks.upward(30));
        ChordOverlay twenty = Checks.joined(Checks.upward(30));
        int before = once.wrongPointers();
        int wrong = before;
        for (int round = 1; round <= 20; round++) {
            wrong = once.goRounds(1);
            checks.same("wrong after round " + round, once.wrongPointers(), wrong);
        }
        checks.same("goRounds(20)", twenty.goRounds(20), wrong);
        checks.same("wrong by then", wrong > 0 && wrong < before, true);
        for (int node = 0; node < 30; node++) {
            checks.same("known of " + node, Checks.known(twenty, node), Checks.known(once, node));
        }
        checks.same("a round more", once.goRounds(1) < wrong, true);
        checks.outOfRange("goRounds(0)", () -> once.goRounds(0));
        checks.outOfRange("goRounds(21)", () -> once.goRounds(21));
    }

    /**
     * 0 gives its dead predecessor up before it replicates, and so copies another's key to its own
     * successors. 24 takes its new successor before it fixes its fingers, and copies to it after.
     */
    private static void fourStepsInOrder() {
        ChordOverlay x = Checks.ring(SIX);
        x.put(0, 40, 5);
        x.put(0, 24, 6);
        x.fail(48);
        x.join(28, 24);
        x.stabilize(28);
        checks.same("goRounds(1)", x.goRounds(1), 0);
        checks.same("kept(16, 40), by 0 without predecessor", x.kept(16, 40), 5);
        checks.same("finger(24, 0)", x.finger(24, 0), 28);
        checks.same("kept(28, 24)", x.kept(28, 24), 6);
        checks.same("kept(28, 40)", x.kept(28, 40), -1);
    }

    /** The dead 16 would notify 0 as the nearer one. */
    private static void theDeadDoNothing() {
        ChordOverlay x = Checks.ring(0, 8, 16);
        x.put(0, 12, 5);
        x.fail(16);
        checks.same("goRounds(1)", x.goRounds(1), 0);
        checks.same("predecessor(0)", x.predecessor(0), 8);
        checks.same("predecessor(8)", x.predecessor(8), 0);
        checks.same("isLiving(16)", x.isLiving(16), false);
        checks.same("keepers(12)", x.keepers(12), 2);
    }

    private static void noneAndAll() {
        checks.same("goRounds(1) of nobody", new ChordOverlay().goRounds(1), 0);
        checks.same("goRounds(20) of nobody", new ChordOverlay().goRounds(20), 0);
        ChordOverlay full = Checks.ring(Checks.upward(64));
        checks.same("goRounds(1) of 64", full.goRounds(1), 0);
        full.put(0, 63, 5);
        checks.same("goRounds(20) of 64", full.goRounds(20), 0);
        checks.same("keepers(63)", full.keepers(63), 3);
        full.fail(63);
        full.join(63, 62);
        full.goRounds(2);
        checks.same("kept(63, 63)", full.kept(63, 63), 5);
    }

    /** 63 goes last, by what 0 told it; when 0 alone is known to 63, it is 0 that misses the news. */
    private static void from0To63() {
        ChordOverlay first = Checks.joined(63, 0);
        checks.same("goRounds(1), 0 tells 63", first.goRounds(1), 0);
        ChordOverlay last = Checks.joined(0, 63);
        checks.same("goRounds(1), 63 tells 0", last.goRounds(1), 13);
        checks.same("known of 0", Checks.known(last, 0), "0 0 0 | 63 | 0 0 0 0 0 0");
        checks.same("known of 63", Checks.known(last, 63), "0 0 0 | -1 | 0 0 0 0 0 0");
    }

    /** 12 is through with its four steps before 36 hears of it; 36 goes by what 12 told it. */
    private static void nodeByNode() {
        ChordOverlay x = Checks.joined(36, 12);
        x.put(36, 12, 5);
        checks.same("goRounds(1)", x.goRounds(1), 1);
        checks.same("fingers of 12, the last one by 36, which knew but itself", Checks.fingers(x, 12), "36 36 36 36 36 36");
        checks.same("fingers of 36", Checks.fingers(x, 36), "12 12 12 12 12 12");
        checks.same("kept(12, 12), from 36 in the same round", x.kept(12, 12), 5);
        checks.same("goRounds(1) again", x.goRounds(1), 0);
        ChordOverlay y = Checks.joined(12, 36);
        y.put(12, 36, 5);
        y.goRounds(1);
        checks.same("fingers of 12, fixed before it knew 36", Checks.fingers(y, 12), "12 12 12 12 12 12");
        checks.same("kept(36, 36), before 12 knew it", y.kept(36, 36), -1);
        y.goRounds(1);
        checks.same("fingers of 12 a round later", Checks.fingers(y, 12), "36 36 36 36 36 12");
        checks.same("kept(36, 36) a round later", y.kept(36, 36), 5);
    }

    private static void stepsOfTheDead() {
        ChordOverlay x = Checks.ring(0, 31, 63);
        x.fail(0);
        x.leave(63);
        for (int node : new int[] {0, 63, 5}) {
            checks.badState("check(" + node + ")", () -> x.check(node));
            checks.badState("stabilize(" + node + ")", () -> x.stabilize(node));
            checks.badState("fix(" + node + ")", () -> x.fix(node));
            checks.badState("replicate(" + node + ")", () -> x.replicate(node));
        }
    }
}
