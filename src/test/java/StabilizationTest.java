/** Promises 12 to 16: the steps of stabilization, and rounds of them. */
public final class StabilizationTest {
    private static final Checks checks = new Checks("StabilizationTest");

    public static void main(String[] args) {
        check();
        checkRefuses();
        stabilizeStepByStep();
        stabilizeTakesNoDeadNode();
        stabilizeLeavesNearerPredecessor();
        stabilizeAlone();
        stabilizeRefuses();
        fix();
        fixGoesByFingersJustFixed();
        fixRefuses();
        replicateOwnKeys();
        replicateOthersKeys();
        replicateWithoutPredecessor();
        replicateByDeadPredecessor();
        replicateRefuses();
        goRounds();
        goRoundsByRisingIdentifiers();
        goRoundsReplicates();
        goRoundsChecksFirst();
        goRoundsNodeByNode();
        goRoundsRefuses();
        checks.tell();
    }

    private static void check() {
        ChordOverlay x = Checks.ring(0, 8, 16);
        checks.same("check(8), 0 lives", x.check(8), true);
        checks.same("predecessor(8)", x.predecessor(8), 0);
        x.fail(0);
        checks.same("check(8), 0 is dead", x.check(8), false);
        checks.same("predecessor(8) then", x.predecessor(8), -1);
        checks.same("check(8) without one", x.check(8), false);
        checks.same("other pointers stay", Checks.successors(x, 8), "16 0 8");
        checks.same("16 did not check", x.predecessor(16), 8);
        x.join(0, 8);
        checks.same("check(8) does not find it again", x.check(8), false);

        ChordOverlay again = Checks.ring(0, 8, 16);
        again.fail(0);
        again.join(0, 16);
        checks.same("check(8), 0 lives again", again.check(8), true);
        checks.same("predecessor(8), that lives again", again.predecessor(8), 0);

        ChordOverlay self = new ChordOverlay();
        self.create(5);
        checks.same("check(5) of a new node", self.check(5), false);
        self.stabilize(5);
        checks.same("check(5), its own predecessor", self.check(5), true);
    }

    private static void checkRefuses() {
        ChordOverlay x = Checks.ring(10, 40);
        checks.outOfRange("check(-1)", () -> x.check(-1));
        checks.outOfRange("check(64)", () -> x.check(64));
        checks.badState("check(11)", () -> x.check(11));
    }

    private static void stabilizeStepByStep() {
        ChordOverlay x = new ChordOverlay();
        x.create(10);
        x.join(40, 10);
        checks.same("stabilize(40)", x.stabilize(40), 10);
        checks.same("10 was notified", x.predecessor(10), 40);
        checks.same("successors of 40", Checks.successors(x, 40), "10 10 10");
        checks.same("predecessor of 40", x.predecessor(40), -1);
        checks.same("stabilize(10) takes its predecessor", x.stabilize(10), 40);
        checks.same("successors of 10", Checks.successors(x, 10), "40 10 10");
        checks.same("40 was notified", x.predecessor(40), 10);
        checks.same("stabilize(40) again", x.stabilize(40), 10);
        checks.same("successors of 40 again", Checks.successors(x, 40), "10 40 10");
        checks.same("predecessor of 10 stays", x.predecessor(10), 40);
        checks.same("no finger is set", Checks.fingers(x, 10), "-1 -1 -1 -1 -1 -1");
    }

    private static void stabilizeTakesNoDeadNode() {
        ChordOverlay x = Checks.ring(0, 8, 16, 24, 32, 48);
        x.join(12, 0);
        x.stabilize(12);
        checks.same("16 knows 12", x.predecessor(16), 12);
        x.fail(12);
        checks.same("stabilize(8) passes the dead 12 over", x.stabilize(8), 16);
        checks.same("16 gives its dead predecessor up for 8", x.predecessor(16), 8);
        x.fail(16);
        checks.same("stabilize(8) goes to 24", x.stabilize(8), 24);
        checks.same("successors of 8", Checks.successors(x, 8), "24 32 48");
        checks.same("24 gives the dead 16 up for 8", x.predecessor(24), 8);
        x.fail(32);
        checks.same("stabilize(8) passes dead successors on", x.stabilize(8), 24);
        checks.same("successors of 8 with a dead one", Checks.successors(x, 8), "24 32 48");
    }

    private static void stabilizeLeavesNearerPredecessor() {
        ChordOverlay x = Checks.ring(0, 16);
        x.join(8, 0);
        x.stabilize(8);
        x.join(4, 8);
        checks.same("stabilize(4) finds 8 by 16", x.stabilize(4), 8);
        checks.same("predecessor of 8", x.predecessor(8), 4);
        checks.same("stabilize(0) finds 8 by 16", x.stabilize(0), 8);
        checks.same("successors of 0", Checks.successors(x, 0), "8 16 0");
        checks.same("8 keeps the nearer predecessor", x.predecessor(8), 4);
        checks.same("stabilize(0) finds 4 by 8", x.stabilize(0), 4);
        checks.same("predecessor of 4", x.predecessor(4), 0);
        checks.same("stabilize(0) stays", x.stabilize(0), 4);
        checks.same("successors of 0 at last", Checks.successors(x, 0), "4 8 16");
    }

    private static void stabilizeAlone() {
        ChordOverlay x = new ChordOverlay();
        x.create(5);
        checks.same("stabilize(5)", x.stabilize(5), 5);
        checks.same("it notified itself", x.predecessor(5), 5);
        checks.same("successors of 5", Checks.successors(x, 5), "5 5 5");

        ChordOverlay y = Checks.ring(0, 8, 16, 24);
        y.fail(8);
        y.fail(16);
        y.fail(24);
        checks.same("stabilize(0), all dead", y.stabilize(0), 0);
        checks.same("the first two it knew itself go on", Checks.successors(y, 0), "0 8 16");
        checks.same("its dead predecessor gives way to itself", y.predecessor(0), 0);

        ChordOverlay z = Checks.ring(0, 8, 16, 24, 32);
        z.fail(8);
        z.fail(16);
        z.fail(24);
        checks.same("stabilize(0) turns to its predecessor", z.stabilize(0), 32);
        checks.same("successors of 0", Checks.successors(z, 0), "32 0 8");
        checks.same("32 gives the dead 24 up for 0", z.predecessor(32), 0);
    }

    private static void stabilizeRefuses() {
        ChordOverlay x = Checks.ring(10, 40);
        checks.outOfRange("stabilize(-1)", () -> x.stabilize(-1));
        checks.outOfRange("stabilize(64)", () -> x.stabilize(64));
        checks.badState("stabilize(11)", () -> x.stabilize(11));
        checks.same("wrongPointers() after refusals", x.wrongPointers(), 0);
    }

    private static void fix() {
        ChordOverlay x = new ChordOverlay();
        x.create(5);
        checks.same("fix(5) of a new node", x.fix(5), 6);
        checks.same("fingers of 5", Checks.fingers(x, 5), "5 5 5 5 5 5");
        checks.same("fix(5) again", x.fix(5), 0);

        ChordOverlay y = Checks.ring(0, 8, 16, 24, 32, 48);
        checks.same("fix(0) of a right node", y.fix(0), 0);
        y.fail(16);
        checks.same("fix(0): 16 gives way to 24", y.fix(0), 1);
        checks.same("fingers of 0", Checks.fingers(y, 0), "8 8 8 8 24 32");
        checks.same("fix(8): 16 and 24 give way", y.fix(8), 4);
        checks.same("fingers of 8", Checks.fingers(y, 8), "24 24 24 24 24 48");
        y.join(60, 0);
        checks.same("fix(60)", y.fix(60), 6);
        checks.same("fingers of 60, around the circle", Checks.fingers(y, 60), "0 0 0 8 24 32");
    }

    /**
     * 0 knew 8 as its finger 3; but 4, its new successor, knows no living node, so a lookup that goes
     * by 4 finds 4. The finger 3 becomes 4, and from then on every lookup of 0 goes by 4.
     */
    private static void fixGoesByFingersJustFixed() {
        ChordOverlay x = Checks.ring(0, 5, 6, 7, 8);
        checks.same("fingers of 0 before", Checks.fingers(x, 0), "5 5 5 8 0 0");
        x.join(4, 0);
        x.stabilize(4);
        x.stabilize(0);
        x.fail(5);
        x.fail(6);
        x.fail(7);
        checks.same("way from 0 to 16 before", Checks.route(x, 0, 16), "0 8 > 0");
        checks.same("fix(0)", x.fix(0), 6);
        checks.same("fingers of 0", Checks.fingers(x, 0), "4 4 4 4 4 4");
        checks.same("way from 0 to 16", Checks.route(x, 0, 16), "0 4 > 4");
    }

    private static void fixRefuses() {
        ChordOverlay x = Checks.ring(10, 40);
        checks.outOfRange("fix(-1)", () -> x.fix(-1));
        checks.outOfRange("fix(64)", () -> x.fix(64));
        checks.badState("fix(11)", () -> x.fix(11));
    }

    private static void replicateOwnKeys() {
        ChordOverlay x = Checks.ring(0, 8, 16, 24, 32, 48);
        x.put(0, 20, 5);
        x.put(0, 24, 6);
        x.put(0, 17, 7);
        checks.same("replicate(24), all have copies", x.replicate(24), 0);
        x.fail(32);
        checks.same("replicate(24), 0 gets three", x.replicate(24), 3);
        checks.same("kept(0, 20)", x.kept(0, 20), 5);
        checks.same("kept(0, 24)", x.kept(0, 24), 6);
        checks.same("kept(0, 17)", x.kept(0, 17), 7);
        checks.same("kept(8, 20): two copies are enough", x.kept(8, 20), -1);
        checks.same("replicate(24) again", x.replicate(24), 0);
        checks.same("replicate(16), which keeps nothing", x.replicate(16), 0);
        x.join(28, 24);
        x.stabilize(28);
        x.stabilize(24);
        checks.same("replicate(24), its new first successor gets three", x.replicate(24), 3);
        checks.same("kept(28, 24)", x.kept(28, 24), 6);

        ChordOverlay edges = new ChordOverlay();
        edges.create(10);
        edges.put(10, 0, 1);
        edges.put(10, 63, 2);
        edges.join(40, 10);
        edges.stabilize(40);
        edges.stabilize(10);
        edges.fail(40);
        edges.check(10);
        edges.join(40, 10);
        checks.same("replicate(10), the first and the last key", edges.replicate(10), 2);
        checks.same("kept(40, 0)", edges.kept(40, 0), 1);
        checks.same("kept(40, 63)", edges.kept(40, 63), 2);
    }

    private static void replicateOthersKeys() {
        ChordOverlay x = Checks.ring(0, 8, 16, 24, 32, 48);
        x.put(0, 20, 5);
        checks.same("replicate(32), 24 has it", x.replicate(32), 0);
        x.fail(24);
        x.join(24, 0);
        x.stabilize(24);
        checks.same("predecessor of 32", x.predecessor(32), 24);
        checks.same("replicate(32), 24 gets it again", x.replicate(32), 1);
        checks.same("kept(24, 20)", x.kept(24, 20), 5);
        checks.same("its successors get none of another's key", x.kept(0, 20), -1);
        checks.same("it keeps the value itself all the same", x.kept(32, 20), 5);
        checks.same("replicate(32) again", x.replicate(32), 0);

        x.put(24, 20, 6);
        checks.same("an older copy is not kept", x.kept(24, 20), 6);

        ChordOverlay own = Checks.ring(0, 8, 16, 24);
        own.put(0, 16, 1);
        own.put(0, 9, 2);
        own.put(0, 8, 3);
        own.fail(16);
        own.join(16, 0);
        own.stabilize(16);
        checks.same("replicate(24): 16 gets 9 and 16", own.replicate(24), 2);
        checks.same("kept(16, 16), the last of its own", own.kept(16, 16), 1);
        checks.same("kept(16, 9), the first of its own", own.kept(16, 9), 2);
        checks.same("kept(16, 8): the copy went to 8, which had it", own.kept(16, 8), -1);
    }

    private static void replicateWithoutPredecessor() {
        ChordOverlay x = Checks.ring(0, 8, 16, 24, 32, 48);
        x.put(0, 20, 5);
        x.fail(24);
        x.check(32);
        checks.same("replicate(32) without predecessor", x.replicate(32), 1);
        checks.same("kept(0, 20), its second successor", x.kept(0, 20), 5);

        ChordOverlay y = Checks.ring(0, 8, 16, 24, 32, 48);
        y.put(0, 40, 5);
        y.fail(48);
        y.check(0);
        checks.same("replicate(0) without predecessor, of a key that was never its own", y.replicate(0), 1);
        checks.same("kept(16, 40)", y.kept(16, 40), 5);

        ChordOverlay alone = new ChordOverlay();
        alone.create(5);
        alone.put(5, 9, 7);
        checks.same("replicate(5) alone", alone.replicate(5), 0);
        alone.stabilize(5);
        checks.same("replicate(5), its own predecessor", alone.replicate(5), 0);
        checks.same("keepers(9)", alone.keepers(9), 1);
    }

    private static void replicateByDeadPredecessor() {
        ChordOverlay x = Checks.ring(0, 8, 16, 24, 32, 48);
        x.put(0, 20, 5);
        x.fail(24);
        checks.same("replicate(32), to what the lookup finds: itself", x.replicate(32), 0);
        checks.same("kept(0, 20)", x.kept(0, 20), -1);
        checks.same("the dead predecessor stays", x.predecessor(32), 24);
    }

    private static void replicateRefuses() {
        ChordOverlay x = Checks.ring(10, 40);
        checks.outOfRange("replicate(-1)", () -> x.replicate(-1));
        checks.outOfRange("replicate(64)", () -> x.replicate(64));
        checks.badState("replicate(11)", () -> x.replicate(11));
    }

    private static void goRounds() {
        checks.same("goRounds(1) of nobody", new ChordOverlay().goRounds(1), 0);
        ChordOverlay x = new ChordOverlay();
        x.create(10);
        checks.same("goRounds(1) of one node", x.goRounds(1), 0);
        checks.same("goRounds(20) of one node", x.goRounds(20), 0);

        ChordOverlay y = Checks.ring(0, 8, 16, 24, 32, 48);
        y.fail(24);
        y.fail(32);
        checks.same("goRounds(2) mends two failures", y.goRounds(2), 0);
        checks.same("successors of 16", Checks.successors(y, 16), "48 0 8");
        checks.same("predecessor of 48", y.predecessor(48), 16);
    }

    /** 10 goes first and finds none but itself; only then 40 tells it, and 10 needs another round. */
    private static void goRoundsByRisingIdentifiers() {
        ChordOverlay x = new ChordOverlay();
        x.create(10);
        x.join(40, 10);
        checks.same("goRounds(1)", x.goRounds(1), 7);
        checks.same("successors of 10", Checks.successors(x, 10), "10 10 10");
        checks.same("fingers of 10", Checks.fingers(x, 10), "10 10 10 10 10 10");
        checks.same("predecessor of 10", x.predecessor(10), 40);
        checks.same("predecessor of 40", x.predecessor(40), -1);
        checks.same("goRounds(1) again", x.goRounds(1), 0);
        checks.same("fingers of 10 then", Checks.fingers(x, 10), "40 40 40 40 40 10");

        ChordOverlay both = new ChordOverlay();
        both.create(10);
        both.join(40, 10);
        checks.same("goRounds(2) at once", both.goRounds(2), 0);
    }

    private static void goRoundsReplicates() {
        ChordOverlay x = Checks.ring(0, 8, 16, 24, 32, 48);
        x.put(0, 20, 5);
        x.fail(24);
        x.goRounds(1);
        checks.same("keepers(20) after a round", x.keepers(20), 3);
        checks.same("kept(0, 20)", x.kept(0, 20), 5);
        x.join(24, 16);
        x.goRounds(1);
        checks.same("24 came back, and 16 does not know it yet", x.kept(24, 20), -1);
        x.goRounds(1);
        checks.same("the node that came back has its key again", x.kept(24, 20), 5);
    }

    /** 0 goes first, and gives its dead predecessor up before it replicates. */
    private static void goRoundsChecksFirst() {
        ChordOverlay x = Checks.ring(0, 8, 16, 24, 32, 48);
        x.put(0, 40, 5);
        x.fail(48);
        checks.same("goRounds(1)", x.goRounds(1), 0);
        checks.same("kept(16, 40)", x.kept(16, 40), 5);
        checks.same("kept(24, 40)", x.kept(24, 40), -1);
    }

    /** A node does all of its steps before the next one begins. */
    private static void goRoundsNodeByNode() {
        ChordOverlay x = new ChordOverlay();
        x.create(0);
        x.join(36, 0);
        x.fail(0);
        x.join(12, 36);
        x.goRounds(1);
        checks.same("12 fixed its fingers when 36 did not know it yet", x.finger(12, 5), 36);
        checks.same("36 knows 12 now", x.successor(36, 0), 12);

        ChordOverlay y = new ChordOverlay();
        y.create(0);
        y.join(12, 0);
        y.goRounds(1);
        y.join(48, 0);
        y.put(12, 46, 7);
        checks.same("12 keeps none before", y.kept(12, 46), -1);
        y.goRounds(1);
        checks.same("0 replicated when it did not know 48 yet", y.kept(12, 46), 7);
        checks.same("0 knows 48 now", y.predecessor(0), 48);
    }

    private static void goRoundsRefuses() {
        ChordOverlay x = new ChordOverlay();
        x.create(10);
        x.join(40, 10);
        int before = x.wrongPointers();
        checks.outOfRange("goRounds(0)", () -> x.goRounds(0));
        checks.outOfRange("goRounds(-1)", () -> x.goRounds(-1));
        checks.outOfRange("goRounds(21)", () -> x.goRounds(21));
        checks.outOfRange("goRounds(greatest int)", () -> x.goRounds(Integer.MAX_VALUE));
        checks.same("wrongPointers() after refusals", x.wrongPointers(), before);
    }
}
