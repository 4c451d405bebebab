/** Promises 24 to 26: the ring as it is. */
public final class RingTest {
    private static final Checks checks = new Checks("RingTest");

    public static void main(String[] args) {
        owner();
        ownerRefuses();
        wrongPointers();
        wrongPointersByKind();
        roundsToRight();
        roundsToRightNever();
        roundsToRightChangesNothing();
        roundsToRightRefuses();
        checks.tell();
    }

    private static void owner() {
        ChordOverlay x = new ChordOverlay();
        checks.same("owner(0) of nobody", x.owner(0), -1);
        x.create(10);
        for (int key = 0; key < 64; key++) {
            checks.same("owner(" + key + ") of one", x.owner(key), 10);
        }
        x.join(40, 10);
        checks.same("owner(10)", x.owner(10), 10);
        checks.same("owner(11), at once", x.owner(11), 40);
        checks.same("owner(40)", x.owner(40), 40);
        checks.same("owner(41)", x.owner(41), 10);
        checks.same("owner(63)", x.owner(63), 10);
        checks.same("owner(0)", x.owner(0), 10);
        x.fail(10);
        checks.same("owner(10) after failing", x.owner(10), 40);
        x.fail(40);
        checks.same("owner(40) of nobody left", x.owner(40), -1);
    }

    private static void ownerRefuses() {
        ChordOverlay x = Checks.ring(10, 40);
        checks.outOfRange("owner(-1)", () -> x.owner(-1));
        checks.outOfRange("owner(64)", () -> x.owner(64));
        checks.outOfRange("owner(64) of nobody", () -> new ChordOverlay().owner(64));
    }

    private static void wrongPointers() {
        ChordOverlay x = new ChordOverlay();
        checks.same("wrongPointers() of nobody", x.wrongPointers(), 0);
        x.create(10);
        checks.same("a new node lacks all but its successor", x.wrongPointers(), 7);
        x.stabilize(10);
        checks.same("with a predecessor", x.wrongPointers(), 6);
        x.fix(10);
        checks.same("with fingers", x.wrongPointers(), 0);
        x.join(40, 10);
        // 10: successor, predecessor and the fingers to 11, 12, 14, 18 and 26; 40: all but its successor.
        checks.same("with another node", x.wrongPointers(), 14);
        x.fail(10);
        checks.same("40 alone knows only the dead", x.wrongPointers(), 7);
        x.fail(40);
        checks.same("of nobody left", x.wrongPointers(), 0);
        x.create(0);
        checks.same("of 0 alone", x.wrongPointers(), 7);
        x.fail(0);
        x.create(63);
        checks.same("of 63 alone", x.wrongPointers(), 7);
    }

    private static void wrongPointersByKind() {
        ChordOverlay x = Checks.ring(0, 8, 16, 24, 32, 48);
        x.fail(24);
        // The predecessor of 32, one finger of 8, and the fingers of 16 to 17, 18, 20 and 24.
        checks.same("after the failure of 24", x.wrongPointers(), 6);
        x.check(32);
        checks.same("none is wrong as well", x.wrongPointers(), 6);
        x.stabilize(16);
        checks.same("with the predecessor of 32", x.wrongPointers(), 5);
        x.fix(8);
        checks.same("with the finger of 8", x.wrongPointers(), 4);
        x.fix(16);
        checks.same("with the fingers of 16", x.wrongPointers(), 0);
        x.fail(32);
        x.fail(48);
        x.fail(0);
        // 16 knows 32, 48 and 0 alone, all dead: its successor and its six fingers are wrong. Of 8 the
        // predecessor is, and the fingers to 24 and 40.
        checks.same("liveSuccessor(16)", x.liveSuccessor(16), 16);
        checks.same("8 and 16, left with dead pointers", x.wrongPointers(), 10);
    }

    private static void roundsToRight() {
        checks.same("roundsToRight(1) of nobody", new ChordOverlay().roundsToRight(1), 0);
        ChordOverlay x = new ChordOverlay();
        x.create(10);
        checks.same("roundsToRight(1) of one", x.roundsToRight(1), 1);
        ChordOverlay zero = new ChordOverlay();
        zero.create(0);
        checks.same("roundsToRight(1) of 0 alone", zero.roundsToRight(1), 1);
        zero.fix(0);
        checks.same("one pointer of 0 alone is wrong", zero.wrongPointers(), 1);
        checks.same("roundsToRight(1) with one wrong", zero.roundsToRight(1), 1);
        x.join(40, 10);
        checks.same("roundsToRight(1): two are needed", x.roundsToRight(1), -1);
        checks.same("roundsToRight(2)", x.roundsToRight(2), 2);
        checks.same("roundsToRight(30)", x.roundsToRight(30), 2);
        x.goRounds(1);
        checks.same("roundsToRight(1) a round later", x.roundsToRight(1), 1);
        x.goRounds(1);
        checks.same("roundsToRight(1) when right", x.roundsToRight(1), 0);
        checks.same("roundsToRight(30) when right", x.roundsToRight(30), 0);
    }

    /** 8 and 0 each know but dead successors, and nobody else: no round brings them together. */
    private static void roundsToRightNever() {
        ChordOverlay x = Checks.ring(0, 8, 16, 24, 32, 40, 48, 56);
        x.fail(8);
        x.fail(16);
        x.fail(24);
        x.fail(40);
        x.fail(48);
        x.fail(56);
        checks.same("roundsToRight(30) of two halves", x.roundsToRight(30), -1);
        x.goRounds(20);
        checks.same("wrong after 20 rounds", x.wrongPointers() > 0, true);
        checks.same("roundsToRight(30) still", x.roundsToRight(30), -1);
    }

    private static void roundsToRightChangesNothing() {
        ChordOverlay x = Checks.ring(0, 8, 16, 24, 32, 48);
        x.put(0, 20, 5);
        x.fail(24);
        x.join(12, 0);
        int wrong = x.wrongPointers();
        checks.same("roundsToRight(30)", x.roundsToRight(30) > 0, true);
        checks.same("wrongPointers() after it", x.wrongPointers(), wrong);
        checks.same("successors of 16", Checks.successors(x, 16), "24 32 48");
        checks.same("predecessor of 32", x.predecessor(32), 24);
        checks.same("predecessor of 12", x.predecessor(12), -1);
        checks.same("fingers of 12", Checks.fingers(x, 12), "-1 -1 -1 -1 -1 -1");
        checks.same("fingers of 8", Checks.fingers(x, 8), "16 16 16 16 24 48");
        checks.same("keepers(20): no copy was given", x.keepers(20), 2);
        checks.same("kept(0, 20)", x.kept(0, 20), -1);
    }

    private static void roundsToRightRefuses() {
        ChordOverlay x = Checks.ring(10, 40);
        checks.outOfRange("roundsToRight(0)", () -> x.roundsToRight(0));
        checks.outOfRange("roundsToRight(-1)", () -> x.roundsToRight(-1));
        checks.outOfRange("roundsToRight(31)", () -> x.roundsToRight(31));
        checks.outOfRange("roundsToRight(31) of nobody", () -> new ChordOverlay().roundsToRight(31));
    }
}
