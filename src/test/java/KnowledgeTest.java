/** Promises 8 to 11: what nodes know. */
public final class KnowledgeTest {
    private static final Checks checks = new Checks("KnowledgeTest");

    public static void main(String[] args) {
        successor();
        successorRefuses();
        liveSuccessor();
        liveSuccessorRefuses();
        predecessor();
        predecessorRefuses();
        finger();
        fingerRefuses();
        checks.tell();
    }

    private static void successor() {
        ChordOverlay x = Checks.ring(0, 8, 16, 24, 32, 48);
        checks.same("successor(8, 0)", x.successor(8, 0), 16);
        checks.same("successor(8, 1)", x.successor(8, 1), 24);
        checks.same("successor(8, 2)", x.successor(8, 2), 32);
        checks.same("successors of 48, around the circle", Checks.successors(x, 48), "0 8 16");
        x.fail(24);
        checks.same("a dead successor is still known", x.successor(8, 1), 24);
        x.join(24, 0);
        checks.same("a successor that lives again is known", x.successor(8, 1), 24);
    }

    private static void successorRefuses() {
        ChordOverlay x = Checks.ring(10, 40);
        checks.outOfRange("successor(-1, 0)", () -> x.successor(-1, 0));
        checks.outOfRange("successor(64, 0)", () -> x.successor(64, 0));
        checks.outOfRange("successor(10, -1)", () -> x.successor(10, -1));
        checks.outOfRange("successor(10, 3)", () -> x.successor(10, 3));
        checks.outOfRange("successor(11, 3): the range goes first", () -> x.successor(11, 3));
        checks.badState("successor(11, 0)", () -> x.successor(11, 0));
        x.fail(40);
        checks.badState("successor(40, 2) after failing", () -> x.successor(40, 2));
    }

    private static void liveSuccessor() {
        ChordOverlay x = Checks.ring(0, 8, 16, 24, 32, 48);
        checks.same("liveSuccessor(8), all live", x.liveSuccessor(8), 16);
        x.fail(16);
        checks.same("liveSuccessor(8), first dead", x.liveSuccessor(8), 24);
        x.fail(24);
        checks.same("liveSuccessor(8), two dead", x.liveSuccessor(8), 32);
        x.fail(32);
        checks.same("liveSuccessor(8), none lives: itself", x.liveSuccessor(8), 8);
        x.join(24, 0);
        checks.same("liveSuccessor(8), the second lives again", x.liveSuccessor(8), 24);
        checks.same("nothing changed by asking", Checks.successors(x, 8), "16 24 32");
    }

    private static void liveSuccessorRefuses() {
        ChordOverlay x = Checks.ring(10, 40);
        checks.outOfRange("liveSuccessor(-1)", () -> x.liveSuccessor(-1));
        checks.outOfRange("liveSuccessor(64)", () -> x.liveSuccessor(64));
        checks.badState("liveSuccessor(39)", () -> x.liveSuccessor(39));
        x.leave(40);
        checks.badState("liveSuccessor(40) after leaving", () -> x.liveSuccessor(40));
    }

    private static void predecessor() {
        ChordOverlay x = Checks.ring(0, 8, 16, 24, 32, 48);
        checks.same("predecessor(8)", x.predecessor(8), 0);
        checks.same("predecessor(0), around the circle", x.predecessor(0), 48);
        x.fail(0);
        checks.same("a dead predecessor is still known", x.predecessor(8), 0);
        x.join(63, 8);
        checks.same("a new node has none", x.predecessor(63), -1);
        x.check(8);
        checks.same("none after the check", x.predecessor(8), -1);
    }

    private static void predecessorRefuses() {
        ChordOverlay x = Checks.ring(10, 40);
        checks.outOfRange("predecessor(-1)", () -> x.predecessor(-1));
        checks.outOfRange("predecessor(64)", () -> x.predecessor(64));
        checks.badState("predecessor(9)", () -> x.predecessor(9));
        x.fail(10);
        checks.badState("predecessor(10) after failing", () -> x.predecessor(10));
    }

    private static void finger() {
        ChordOverlay x = Checks.ring(0, 8, 16, 24, 32, 48);
        checks.same("fingers of 0", Checks.fingers(x, 0), "8 8 8 8 16 32");
        checks.same("fingers of 32", Checks.fingers(x, 32), "48 48 48 48 48 0");
        checks.same("fingers of 48", Checks.fingers(x, 48), "0 0 0 0 0 16");
        x.fail(16);
        checks.same("a dead finger is still known", x.finger(0, 4), 16);
        x.join(16, 0);
        checks.same("fingers of a new node", Checks.fingers(x, 16), "-1 -1 -1 -1 -1 -1");
        checks.same("a finger that lives again is known", x.finger(0, 4), 16);
    }

    private static void fingerRefuses() {
        ChordOverlay x = Checks.ring(10, 40);
        checks.outOfRange("finger(-1, 0)", () -> x.finger(-1, 0));
        checks.outOfRange("finger(64, 0)", () -> x.finger(64, 0));
        checks.outOfRange("finger(10, -1)", () -> x.finger(10, -1));
        checks.outOfRange("finger(10, 6)", () -> x.finger(10, 6));
        checks.outOfRange("finger(11, 6): the range goes first", () -> x.finger(11, 6));
        checks.badState("finger(11, 0)", () -> x.finger(11, 0));
        x.fail(40);
        checks.badState("finger(40, 5) after failing", () -> x.finger(40, 5));
    }
}
