/**
 * Where nodes come and go, and what they know: the edges that the document names in promises 1 to 11,
 * and under "Terms" for what a node knows. Each test stands under the sentence that it holds.
 */
public final class NodesEdgesTest {
    private static final Checks checks = new Checks("NodesEdgesTest");
    private static final int[] SIX = {0, 8, 16, 24, 32, 48};

    public static void main(String[] args) {
        newObjectAndCreate();
        join();
        failAndLeave();
        livingAndKnowledge();
        checks.tell();
    }

    private static void newObjectAndCreate() {
        checks.edge("Begins without nodes.", NodesEdgesTest::newObject);
        checks.edge("create: node: 0 to 63", NodesEdgesTest::createEach);
        checks.edge("Lets the first node live: its successors are itself", NodesEdgesTest::createdSuccessors);
        checks.edge("it has no predecessor, its fingers are unknown", NodesEdgesTest::createdKnowsNothing);
        checks.edge("and it keeps no values", NodesEdgesTest::createdKeepsNothing);
        checks.edge("create: IllegalStateException if a node lives", NodesEdgesTest::createBesideOthers);
        checks.edge("create: a node that lived lives no more", NodesEdgesTest::createAfterAllWent);
    }

    private static void join() {
        checks.edge("join: node: 0 to 63", NodesEdgesTest::joinEach);
        checks.edge("what a lookup from another node finds for it", NodesEdgesTest::joinedSuccessor);
        checks.edge("what a lookup finds for it: a node that lived before", NodesEdgesTest::rejoinedSuccessor);
        checks.edge("and the first two successors of that", NodesEdgesTest::joinedNextSuccessors);
        checks.edge("it has no predecessor, its fingers are unknown, keeps no values", NodesEdgesTest::joinedKnowsNothing);
        checks.edge("join: IllegalStateException if node lives", NodesEdgesTest::joinOfALivingNode);
        checks.edge("or via does not", NodesEdgesTest::joinViaADeadNode);
        checks.edge("via: the other node", NodesEdgesTest::joinViaItself);
        checks.edge("join: all 64 live", NodesEdgesTest::joinUntilFull);
    }

    private static void failAndLeave() {
        checks.edge("fail: Returns how many nodes live then: down to 0", NodesEdgesTest::failToTheLast);
        checks.edge("and no other node is told", NodesEdgesTest::failTellsNobody);
        checks.edge("fail: IllegalStateException if it does not live", NodesEdgesTest::failOfTheDead);
        checks.edge("leave: Returns how many nodes live then: down to 0", NodesEdgesTest::leaveToTheLast);
        checks.edge("If its live successor s is another node", NodesEdgesTest::leaveOfItsOwnSuccessor);
        checks.edge("its live successor s: the first one that lives", NodesEdgesTest::leavePastDeadSuccessors);
        checks.edge("s gets copies of all its values", NodesEdgesTest::leaveGivesEachKey);
        checks.edge("the predecessor of the node becomes that of s", NodesEdgesTest::leaveHandsPredecessorOn);
        checks.edge("the predecessor of the node, or none, becomes that of s", NodesEdgesTest::leaveWithoutPredecessor);
        checks.edge("if the node has a predecessor that lives", NodesEdgesTest::leaveWithDeadPredecessor);
        checks.edge("and is not itself", NodesEdgesTest::leaveWithItselfAsPredecessor);
        checks.edge("the successors of that become s, and the first two of s", NodesEdgesTest::leaveOfTwo);
        checks.edge("leave: IllegalStateException if it does not live", NodesEdgesTest::leaveOfTheDead);
    }

    private static void livingAndKnowledge() {
        checks.edge("Returns how many nodes live: 0 to 64", NodesEdgesTest::livingFromNoneToAll);
        checks.edge("Tells whether a node lives.", NodesEdgesTest::livingOrNot);
        checks.edge("place: 0 to 2", NodesEdgesTest::firstAndLastPlace);
        checks.edge("may be a node that lives no more, or lives again: successors", NodesEdgesTest::deadSuccessorsStay);
        checks.edge("the first one of its successors that lives", NodesEdgesTest::liveSuccessorOfThree);
        checks.edge("if none does, it is the node itself", NodesEdgesTest::liveSuccessorOfNone);
        checks.edge("-1 if it has none", NodesEdgesTest::noPredecessor);
        checks.edge("may be a node that lives no more, or lives again: predecessor", NodesEdgesTest::deadPredecessorStays);
        checks.edge("number: 0 to 5", NodesEdgesTest::firstAndLastFinger);
        checks.edge("-1 if it is unknown", NodesEdgesTest::unknownFingers);
        checks.edge("may be a node that lives no more, or lives again: fingers", NodesEdgesTest::deadFingersStay);
        checks.edge("IllegalStateException if the node does not live", NodesEdgesTest::knowledgeOfTheDead);
    }

    // ---- promises 1 and 2

    private static void newObject() {
        ChordOverlay x = new ChordOverlay();
        checks.same("living()", x.living(), 0);
        checks.same("wrongPointers()", x.wrongPointers(), 0);
        checks.same("roundsToRight(1)", x.roundsToRight(1), 0);
        checks.same("goRounds(20)", x.goRounds(20), 0);
        for (int id : new int[] {0, 1, 62, 63}) {
            checks.same("isLiving(" + id + ")", x.isLiving(id), false);
            checks.same("owner(" + id + ")", x.owner(id), -1);
            checks.same("keepers(" + id + ")", x.keepers(id), 0);
            checks.badState("successor(" + id + ", 0)", () -> x.successor(id, 0));
            checks.badState("kept(" + id + ", 0)", () -> x.kept(id, 0));
        }
    }

    private static void createEach() {
        for (int node = 0; node < 64; node++) {
            ChordOverlay x = new ChordOverlay();
            checks.same("create(" + node + ")", x.create(node), 1);
            checks.same("isLiving(" + node + ")", x.isLiving(node), true);
            checks.same("isLiving of the next", x.isLiving((node + 1) % 64), false);
            checks.same("isLiving of the one before", x.isLiving((node + 63) % 64), false);
        }
    }

    private static void createdSuccessors() {
        for (int node : new int[] {0, 1, 62, 63}) {
            ChordOverlay x = Checks.alone(node);
            checks.same("successors", Checks.successors(x, node), node + " " + node + " " + node);
            checks.same("liveSuccessor", x.liveSuccessor(node), node);
        }
        ChordOverlay again = Checks.ring(SIX);
        for (int node : SIX) {
            again.fail(node);
        }
        again.create(8);
        checks.same("successors of a former node", Checks.successors(again, 8), "8 8 8");
    }

    private static void createdKnowsNothing() {
        for (int node : new int[] {0, 63}) {
            ChordOverlay x = Checks.alone(node);
            checks.same("predecessor", x.predecessor(node), -1);
            checks.same("fingers", Checks.fingers(x, node), "-1 -1 -1 -1 -1 -1");
            x.goRounds(1);
            x.fail(node);
            x.create(node);
            checks.same("predecessor anew", x.predecessor(node), -1);
            checks.same("fingers anew", Checks.fingers(x, node), "-1 -1 -1 -1 -1 -1");
        }
    }

    private static void createdKeepsNothing() {
        ChordOverlay x = Checks.alone(5);
        for (int key = 0; key < 64; key++) {
            checks.same("kept(5, " + key + ")", x.kept(5, key), -1);
            x.put(5, key, key);
        }
        x.leave(5);
        x.create(5);
        for (int key = 0; key < 64; key++) {
            checks.same("kept(5, " + key + ") anew", x.kept(5, key), -1);
            checks.same("keepers(" + key + ") anew", x.keepers(key), 0);
        }
    }

    private static void createBesideOthers() {
        for (int living : new int[] {0, 63}) {
            ChordOverlay x = Checks.alone(living);
            for (int node = 0; node < 64; node++) {
                int id = node;
                checks.badState("create(" + id + ") beside " + living, () -> x.create(id));
            }
            checks.same("living()", x.living(), 1);
        }
        ChordOverlay last = Checks.ring(0, 31, 63);
        last.fail(0);
        last.leave(31);
        checks.badState("create(0) beside the last one", () -> last.create(0));
    }

    private static void createAfterAllWent() {
        ChordOverlay x = Checks.alone(0);
        x.fail(0);
        checks.same("create(0) after failing", x.create(0), 1);
        x.leave(0);
        checks.same("create(63) after leaving", x.create(63), 1);
        checks.same("living()", x.living(), 1);
        checks.same("isLiving(0)", x.isLiving(0), false);
    }

    // ---- promise 3

    private static void joinEach() {
        for (int node = 0; node < 64; node++) {
            if (node != 31) {
                ChordOverlay x = Checks.alone(31);
                checks.same("join(" + node + ", 31)", x.join(node, 31), 31);
                checks.same("known", Checks.known(x, node), "31 31 31 | -1 | -1 -1 -1 -1 -1 -1");
                checks.same("living()", x.living(), 2);
            }
        }
        checks.same("join(0, 63)", Checks.alone(63).join(0, 63), 63);
        checks.same("join(63, 0)", Checks.alone(0).join(63, 0), 0);
    }

    private static void joinedSuccessor() {
        int[] nodes = {0, 9, 11, 39, 41, 63};
        int[] due = {10, 10, 40, 40, 10, 10};
        for (int i = 0; i < nodes.length; i++) {
            for (int via : new int[] {10, 40}) {
                ChordOverlay x = Checks.ring(10, 40);
                checks.same("join(" + nodes[i] + ", " + via + ")", x.join(nodes[i], via), due[i]);
                checks.same("successor(" + nodes[i] + ", 0)", x.successor(nodes[i], 0), due[i]);
            }
        }
    }

    /** While the lookup goes, the node does not live: 0 knows 8 still, but finds the next one. */
    private static void rejoinedSuccessor() {
        ChordOverlay x = Checks.ring(SIX);
        x.fail(8);
        checks.same("join(8, 0)", x.join(8, 0), 16);
        checks.same("successors of 8", Checks.successors(x, 8), "16 24 32");
        ChordOverlay alone = Checks.ring(10, 40);
        alone.fail(40);
        checks.same("join(40, 10)", alone.join(40, 10), 10);
    }

    /** As that one knows them: also one that is dead, or the node that joins. */
    private static void joinedNextSuccessors() {
        ChordOverlay x = Checks.ring(SIX);
        x.fail(24);
        x.join(12, 0);
        checks.same("with a dead one", Checks.successors(x, 12), "16 24 32");
        ChordOverlay three = Checks.ring(0, 8, 16);
        three.fail(8);
        three.join(8, 0);
        checks.same("with itself", Checks.successors(three, 8), "16 0 8");
        checks.same("liveSuccessor(8)", three.liveSuccessor(8), 16);
        ChordOverlay past = Checks.ring(SIX);
        past.join(40, 0);
        checks.same("past 63", Checks.successors(past, 40), "48 0 8");
    }

    private static void joinedKnowsNothing() {
        ChordOverlay x = Checks.ring(SIX);
        x.put(0, 24, 5);
        x.put(0, 63, 6);
        x.put(0, 0, 7);
        for (int node : new int[] {0, 24}) {
            x.fail(node);
            x.join(node, 8);
            checks.same("predecessor(" + node + ")", x.predecessor(node), -1);
            checks.same("fingers of " + node, Checks.fingers(x, node), "-1 -1 -1 -1 -1 -1");
            checks.same("kept(" + node + ", 0)", x.kept(node, 0), -1);
            checks.same("kept(" + node + ", 24)", x.kept(node, 24), -1);
            checks.same("kept(" + node + ", 63)", x.kept(node, 63), -1);
        }
    }

    private static void joinOfALivingNode() {
        ChordOverlay x = Checks.ring(0, 63);
        checks.badState("join(63, 0)", () -> x.join(63, 0));
        checks.badState("join(0, 63)", () -> x.join(0, 63));
        checks.badState("join(0, 5), via dead too", () -> x.join(0, 5));
        checks.same("living()", x.living(), 2);
        checks.same("wrongPointers()", x.wrongPointers(), 0);
    }

    private static void joinViaADeadNode() {
        ChordOverlay x = Checks.ring(0, 31, 63);
        checks.badState("join(5, 6), never lived", () -> x.join(5, 6));
        x.fail(0);
        checks.badState("join(5, 0), failed", () -> x.join(5, 0));
        x.leave(63);
        checks.badState("join(5, 63), left", () -> x.join(5, 63));
        checks.same("isLiving(5)", x.isLiving(5), false);
        checks.badState("join(1, 0) on a new object", () -> new ChordOverlay().join(1, 0));
    }

    private static void joinViaItself() {
        ChordOverlay x = Checks.ring(0, 31, 63);
        checks.badState("join(0, 0)", () -> x.join(0, 0));
        checks.badState("join(63, 63)", () -> x.join(63, 63));
        checks.badState("join(5, 5)", () -> x.join(5, 5));
        checks.same("isLiving(5)", x.isLiving(5), false);
        checks.badState("join(0, 0) on a new object", () -> new ChordOverlay().join(0, 0));
    }

    private static void joinUntilFull() {
        ChordOverlay x = Checks.ring(Checks.upward(63));
        checks.same("join(63, 62)", x.join(63, 62), 0);
        checks.same("successors of 63", Checks.successors(x, 63), "0 1 2");
        checks.same("living()", x.living(), 64);
        for (int node = 0; node < 64; node++) {
            int id = node;
            checks.badState("join(" + id + ", 0)", () -> x.join(id, 0));
        }
        checks.same("goRounds(20)", x.goRounds(20), 0);
        x.fail(0);
        checks.same("join(0, 63), the last one again", x.join(0, 63), 1);
        checks.same("living() again", x.living(), 64);
    }

    // ---- promises 4 and 5

    private static void failToTheLast() {
        ChordOverlay x = Checks.joined(Checks.upward(64));
        for (int node = 0; node < 64; node++) {
            checks.same("fail(" + node + ")", x.fail(node), 63 - node);
            checks.same("isLiving(" + node + ")", x.isLiving(node), false);
        }
        checks.same("living()", x.living(), 0);
    }

    private static void failTellsNobody() {
        ChordOverlay x = Checks.ring(SIX);
        ChordOverlay as = Checks.ring(SIX);
        x.put(0, 60, 4);
        as.put(0, 60, 4);
        x.fail(0);
        for (int node : new int[] {8, 16, 24, 32, 48}) {
            checks.same("known of " + node, Checks.known(x, node), Checks.known(as, node));
            checks.same("kept(" + node + ", 60)", x.kept(node, 60), as.kept(node, 60));
        }
    }

    private static void failOfTheDead() {
        ChordOverlay x = Checks.ring(0, 31, 63);
        checks.badState("fail(5), never lived", () -> x.fail(5));
        x.fail(0);
        checks.badState("fail(0), failed", () -> x.fail(0));
        x.leave(63);
        checks.badState("fail(63), left", () -> x.fail(63));
        checks.same("living()", x.living(), 1);
        checks.badState("fail(0) on a new object", () -> new ChordOverlay().fail(0));
    }

    private static void leaveToTheLast() {
        ChordOverlay x = Checks.joined(Checks.upward(64));
        for (int node = 63; node >= 0; node--) {
            checks.same("leave(" + node + ")", x.leave(node), node);
            checks.same("isLiving(" + node + ")", x.isLiving(node), false);
        }
        checks.same("living()", x.living(), 0);
    }

    /** All that 8 knows as its successors is dead: it leaves 0, its predecessor, as it is. */
    private static void leaveOfItsOwnSuccessor() {
        ChordOverlay x = Checks.ring(0, 8, 16, 24, 32);
        x.join(12, 0);
        x.stabilize(12);
        x.stabilize(8);
        checks.same("successors of 8", Checks.successors(x, 8), "12 16 24");
        checks.same("successors of 0", Checks.successors(x, 0), "8 16 24");
        x.fail(12);
        x.fail(16);
        x.fail(24);
        x.put(8, 60, 2);
        checks.same("liveSuccessor(8)", x.liveSuccessor(8), 8);
        String before = Checks.known(x, 0);
        String beforeOf32 = Checks.known(x, 32);
        checks.same("leave(8)", x.leave(8), 2);
        checks.same("known of 0", Checks.known(x, 0), before);
        checks.same("known of 32", Checks.known(x, 32), beforeOf32);
        checks.same("keepers(60): nobody got a copy", x.keepers(60), 0);
        checks.same("leave(0)", Checks.alone(0).leave(0), 0);
    }

    private static void leavePastDeadSuccessors() {
        ChordOverlay x = Checks.ring(SIX);
        x.put(0, 20, 5);
        x.fail(32);
        x.fail(48);
        checks.same("leave(24)", x.leave(24), 3);
        checks.same("kept(0, 20)", x.kept(0, 20), 5);
        checks.same("predecessor(0)", x.predecessor(0), 16);
        checks.same("successors of 16", Checks.successors(x, 16), "0 8 16");
    }

    private static void leaveGivesEachKey() {
        ChordOverlay x = Checks.alone(10);
        for (int key = 0; key < 64; key++) {
            x.put(10, key, 999 - key);
        }
        x.join(40, 10);
        x.stabilize(40);
        x.stabilize(10);
        x.leave(10);
        for (int key = 0; key < 64; key++) {
            checks.same("kept(40, " + key + ")", x.kept(40, key), 999 - key);
        }
        ChordOverlay none = Checks.ring(10, 40);
        none.leave(10);
        checks.same("kept(40, 0) of no values", none.kept(40, 0), -1);
    }

    private static void leaveHandsPredecessorOn() {
        ChordOverlay x = Checks.ring(SIX);
        x.leave(0);
        checks.same("predecessor(8), past 0", x.predecessor(8), 48);
        checks.same("successors of 48", Checks.successors(x, 48), "8 16 24");
        checks.same("predecessor(16)", x.predecessor(16), 8);
        checks.same("successors of 32", Checks.successors(x, 32), "48 0 8");
    }

    private static void leaveWithoutPredecessor() {
        ChordOverlay x = Checks.ring(SIX);
        x.join(20, 0);
        String before = Checks.known(x, 16);
        x.leave(20);
        checks.same("predecessor(24)", x.predecessor(24), -1);
        checks.same("known of 16", Checks.known(x, 16), before);
    }

    private static void leaveWithDeadPredecessor() {
        ChordOverlay x = Checks.ring(SIX);
        x.fail(16);
        String before = Checks.known(x, 8);
        x.leave(24);
        checks.same("predecessor(32)", x.predecessor(32), 16);
        checks.same("known of 8", Checks.known(x, 8), before);
        x.join(16, 8);
        checks.same("successors of 16, that lives again", Checks.successors(x, 16), "32 48 0");
        x.leave(32);
        checks.same("predecessor(48)", x.predecessor(48), 16);
        checks.same("a predecessor that lives again is told", Checks.successors(x, 16), "48 0 8");
    }

    private static void leaveWithItselfAsPredecessor() {
        ChordOverlay x = Checks.ownPredecessor();
        checks.same("known of 0", Checks.known(x, 0), "40 0 0 | 0 | -1 -1 -1 -1 -1 -1");
        x.join(20, 40);
        x.stabilize(20);
        checks.same("known of 40", Checks.known(x, 40), "0 0 40 | 20 | -1 -1 -1 -1 -1 -1");
        checks.same("leave(0)", x.leave(0), 2);
        checks.same("known of 40, after 0 gave itself", Checks.known(x, 40), "0 0 40 | 0 | -1 -1 -1 -1 -1 -1");
        checks.same("known of 20", Checks.known(x, 20), "40 0 0 | -1 | -1 -1 -1 -1 -1 -1");
    }

    /** s is the predecessor as well: it takes its own first two successors on, as they were. */
    private static void leaveOfTwo() {
        ChordOverlay x = Checks.ring(0, 63);
        checks.same("successors of 0 before", Checks.successors(x, 0), "63 0 63");
        x.leave(63);
        checks.same("successors of 0", Checks.successors(x, 0), "0 63 0");
        checks.same("predecessor(0)", x.predecessor(0), 0);
        ChordOverlay three = Checks.ring(0, 31, 63);
        three.leave(31);
        checks.same("successors of 0 of three", Checks.successors(three, 0), "63 0 31");
        checks.same("successors of 63 of three", Checks.successors(three, 63), "0 31 63");
    }

    private static void leaveOfTheDead() {
        ChordOverlay x = Checks.ring(0, 31, 63);
        checks.badState("leave(5), never lived", () -> x.leave(5));
        x.leave(0);
        checks.badState("leave(0), left", () -> x.leave(0));
        x.fail(63);
        checks.badState("leave(63), failed", () -> x.leave(63));
        checks.same("living()", x.living(), 1);
        checks.badState("leave(63) on a new object", () -> new ChordOverlay().leave(63));
    }

    // ---- promises 6 to 11

    private static void livingFromNoneToAll() {
        ChordOverlay x = new ChordOverlay();
        checks.same("living() of nobody", x.living(), 0);
        x.create(63);
        checks.same("living() of one", x.living(), 1);
        for (int node = 0; node < 63; node++) {
            x.join(node, 63);
            checks.same("living()", x.living(), node + 2);
        }
        x.fail(0);
        checks.same("living() after failing", x.living(), 63);
        x.leave(63);
        checks.same("living() after leaving", x.living(), 62);
    }

    private static void livingOrNot() {
        ChordOverlay x = new ChordOverlay();
        for (int node : new int[] {0, 63}) {
            checks.same("isLiving(" + node + ") at first", x.isLiving(node), false);
            x.create(node);
            checks.same("isLiving(" + node + ")", x.isLiving(node), true);
            checks.same("isLiving(" + (63 - node) + ")", x.isLiving(63 - node), false);
            x.fail(node);
            checks.same("isLiving(" + node + ") after failing", x.isLiving(node), false);
        }
        x.create(63);
        checks.same("isLiving(63) again", x.isLiving(63), true);
    }

    private static void firstAndLastPlace() {
        ChordOverlay x = Checks.ring(SIX);
        checks.same("successor(0, 0)", x.successor(0, 0), 8);
        checks.same("successor(0, 2)", x.successor(0, 2), 24);
        checks.same("successor(48, 0), past 63", x.successor(48, 0), 0);
        checks.same("successor(48, 2), past 63", x.successor(48, 2), 16);
        checks.outOfRange("successor(0, -1)", () -> x.successor(0, -1));
        checks.outOfRange("successor(0, 3)", () -> x.successor(0, 3));
    }

    private static void deadSuccessorsStay() {
        ChordOverlay x = Checks.ring(SIX);
        x.fail(8);
        x.fail(16);
        x.fail(24);
        checks.same("successors of 0, all dead", Checks.successors(x, 0), "8 16 24");
        x.join(16, 48);
        checks.same("successors of 0, one lives again", Checks.successors(x, 0), "8 16 24");
    }

    private static void liveSuccessorOfThree() {
        ChordOverlay x = Checks.ring(SIX);
        checks.same("the first", x.liveSuccessor(0), 8);
        x.fail(8);
        checks.same("the second", x.liveSuccessor(0), 16);
        x.fail(16);
        checks.same("the third", x.liveSuccessor(0), 24);
        x.join(8, 48);
        checks.same("the first, that lives again", x.liveSuccessor(0), 8);
        checks.same("of the last node, past 63", x.liveSuccessor(48), 0);
    }

    private static void liveSuccessorOfNone() {
        ChordOverlay x = Checks.ring(SIX);
        x.fail(0);
        x.fail(8);
        x.fail(16);
        checks.same("liveSuccessor(48)", x.liveSuccessor(48), 48);
        checks.same("liveSuccessor(32) knows another", x.liveSuccessor(32), 48);
        checks.same("liveSuccessor(0) alone", Checks.alone(0).liveSuccessor(0), 0);
    }

    /** Nor is none the same as the node 0, or 63. */
    private static void noPredecessor() {
        ChordOverlay x = Checks.joined(0, 63);
        checks.same("predecessor(0)", x.predecessor(0), -1);
        checks.same("predecessor(63)", x.predecessor(63), -1);
        x.goRounds(2);
        checks.same("predecessor(0) then", x.predecessor(0), 63);
        checks.same("predecessor(63) then", x.predecessor(63), 0);
        x.fail(0);
        x.check(63);
        checks.same("predecessor(63) after the check", x.predecessor(63), -1);
    }

    private static void deadPredecessorStays() {
        ChordOverlay x = Checks.ring(SIX);
        x.fail(0);
        checks.same("predecessor(8)", x.predecessor(8), 0);
        x.join(0, 8);
        checks.same("predecessor(8), lives again", x.predecessor(8), 0);
    }

    private static void firstAndLastFinger() {
        ChordOverlay x = Checks.ring(SIX);
        checks.same("finger(16, 0)", x.finger(16, 0), 24);
        checks.same("finger(16, 5)", x.finger(16, 5), 48);
        checks.same("finger(32, 5), to 0", x.finger(32, 5), 0);
        checks.outOfRange("finger(16, -1)", () -> x.finger(16, -1));
        checks.outOfRange("finger(16, 6)", () -> x.finger(16, 6));
    }

    private static void unknownFingers() {
        ChordOverlay x = Checks.joined(0, 63);
        checks.same("fingers of 0", Checks.fingers(x, 0), "-1 -1 -1 -1 -1 -1");
        checks.same("fingers of 63", Checks.fingers(x, 63), "-1 -1 -1 -1 -1 -1");
        x.stabilize(63);
        x.stabilize(0);
        checks.same("stabilizing fixes none", Checks.fingers(x, 0), "-1 -1 -1 -1 -1 -1");
        x.fix(63);
        checks.same("finger(63, 0), the node 0", x.finger(63, 0), 0);
        checks.same("fingers of 0 still", Checks.fingers(x, 0), "-1 -1 -1 -1 -1 -1");
    }

    private static void deadFingersStay() {
        ChordOverlay x = Checks.ring(SIX);
        x.fail(32);
        x.fail(8);
        checks.same("fingers of 0", Checks.fingers(x, 0), "8 8 8 8 16 32");
        x.join(32, 0);
        checks.same("fingers of 0, one lives again", Checks.fingers(x, 0), "8 8 8 8 16 32");
    }

    private static void knowledgeOfTheDead() {
        ChordOverlay x = Checks.ring(0, 31, 63);
        x.fail(0);
        x.leave(63);
        for (int node : new int[] {0, 63, 5}) {
            checks.badState("successor(" + node + ", 0)", () -> x.successor(node, 0));
            checks.badState("successor(" + node + ", 2)", () -> x.successor(node, 2));
            checks.badState("liveSuccessor(" + node + ")", () -> x.liveSuccessor(node));
            checks.badState("predecessor(" + node + ")", () -> x.predecessor(node));
            checks.badState("finger(" + node + ", 0)", () -> x.finger(node, 0));
            checks.badState("finger(" + node + ", 5)", () -> x.finger(node, 5));
        }
    }
}
