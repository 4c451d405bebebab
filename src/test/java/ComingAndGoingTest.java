/** Promises 1 to 7: nodes that come and go. */
public final class ComingAndGoingTest {
    private static final Checks checks = new Checks("ComingAndGoingTest");

    public static void main(String[] args) {
        newObject();
        create();
        createRefuses();
        createAnew();
        join();
        joinAsksLookup();
        joinRefuses();
        rejoin();
        fail();
        failRefuses();
        leave();
        leaveGivesCopies();
        leaveWithoutLivingPredecessor();
        leaveAlone();
        leaveRefuses();
        living();
        isLiving();
        checks.tell();
    }

    private static void newObject() {
        ChordOverlay x = new ChordOverlay();
        checks.same("new: living()", x.living(), 0);
        checks.same("new: wrongPointers()", x.wrongPointers(), 0);
        for (int id = 0; id < 64; id++) {
            checks.same("new: isLiving(" + id + ")", x.isLiving(id), false);
            checks.same("new: owner(" + id + ")", x.owner(id), -1);
            checks.same("new: keepers(" + id + ")", x.keepers(id), 0);
        }
        ChordOverlay other = new ChordOverlay();
        x.create(3);
        checks.same("another new object: living()", other.living(), 0);
    }

    private static void create() {
        for (int node : new int[] {0, 31, 63}) {
            ChordOverlay x = new ChordOverlay();
            checks.same("create(" + node + ")", x.create(node), 1);
            checks.same("successors after create", Checks.successors(x, node), node + " " + node + " " + node);
            checks.same("predecessor after create", x.predecessor(node), -1);
            checks.same("fingers after create", Checks.fingers(x, node), "-1 -1 -1 -1 -1 -1");
            for (int key = 0; key < 64; key++) {
                checks.same("kept after create", x.kept(node, key), -1);
            }
            checks.same("lives after create", x.isLiving(node), true);
        }
    }

    private static void createRefuses() {
        ChordOverlay x = new ChordOverlay();
        checks.outOfRange("create(-1)", () -> x.create(-1));
        checks.outOfRange("create(64)", () -> x.create(64));
        checks.outOfRange("create(least int)", () -> x.create(Integer.MIN_VALUE));
        checks.outOfRange("create(greatest int)", () -> x.create(Integer.MAX_VALUE));
        checks.same("living() after refusals", x.living(), 0);
        x.create(7);
        checks.badState("create(7) again", () -> x.create(7));
        checks.badState("create(8) beside 7", () -> x.create(8));
        checks.outOfRange("create(64) beside 7", () -> x.create(64));
        checks.same("living() after refusals beside 7", x.living(), 1);
        checks.same("isLiving(8) after refusal", x.isLiving(8), false);
    }

    private static void createAnew() {
        ChordOverlay x = new ChordOverlay();
        x.create(7);
        x.put(7, 9, 5);
        x.goRounds(1);
        x.fail(7);
        checks.same("create(7) anew", x.create(7), 1);
        checks.same("predecessor anew", x.predecessor(7), -1);
        checks.same("fingers anew", Checks.fingers(x, 7), "-1 -1 -1 -1 -1 -1");
        checks.same("kept(7, 9) anew", x.kept(7, 9), -1);
        checks.same("keepers(9) anew", x.keepers(9), 0);
        checks.same("copy of an old stamp is no hindrance", x.put(7, 9, 6), 7);
        checks.same("kept(7, 9) after put", x.kept(7, 9), 6);
    }

    private static void join() {
        ChordOverlay x = Checks.ring(0, 8, 16, 24, 32, 48);
        checks.same("join(20, 48)", x.join(20, 48), 24);
        checks.same("living() after join", x.living(), 7);
        checks.same("successors of 20", Checks.successors(x, 20), "24 32 48");
        checks.same("predecessor of 20", x.predecessor(20), -1);
        checks.same("fingers of 20", Checks.fingers(x, 20), "-1 -1 -1 -1 -1 -1");
        checks.same("kept(20, 20)", x.kept(20, 20), -1);
        checks.same("24 is not told", x.predecessor(24), 16);
        checks.same("16 is not told", x.successor(16, 0), 24);
        checks.same("join(63, 8)", x.join(63, 8), 0);
        checks.same("successors of 63", Checks.successors(x, 63), "0 8 16");
    }

    /** What the lookup finds counts, not the owner; and the successors are passed on as they are. */
    private static void joinAsksLookup() {
        ChordOverlay x = new ChordOverlay();
        x.create(10);
        x.join(40, 10);
        checks.same("join(25, 10) before any stabilization", x.join(25, 10), 10);
        checks.same("successors of 25", Checks.successors(x, 25), "10 10 10");

        ChordOverlay y = Checks.ring(0, 8, 16, 24, 32, 48);
        y.fail(32);
        checks.same("join(20, 0) before a failure is known", y.join(20, 0), 24);
        checks.same("a dead successor is passed on", Checks.successors(y, 20), "24 32 48");
    }

    private static void joinRefuses() {
        ChordOverlay x = Checks.ring(10, 40);
        checks.outOfRange("join(-1, 10)", () -> x.join(-1, 10));
        checks.outOfRange("join(64, 10)", () -> x.join(64, 10));
        checks.outOfRange("join(5, -1)", () -> x.join(5, -1));
        checks.outOfRange("join(5, 64)", () -> x.join(5, 64));
        checks.outOfRange("join(10, 64): the range goes first", () -> x.join(10, 64));
        checks.badState("join(40, 10): lives", () -> x.join(40, 10));
        checks.badState("join(5, 6): via does not live", () -> x.join(5, 6));
        checks.badState("join(5, 5): via itself", () -> x.join(5, 5));
        checks.badState("join(10, 10)", () -> x.join(10, 10));
        checks.same("living() after refusals", x.living(), 2);
        checks.same("isLiving(5) after refusals", x.isLiving(5), false);
        checks.same("wrongPointers() after refusals", x.wrongPointers(), 0);
    }

    private static void rejoin() {
        ChordOverlay x = Checks.ring(0, 8, 16, 24, 32, 48);
        x.put(0, 20, 5);
        x.fail(24);
        x.join(24, 0);
        checks.same("kept(24, 20) after rejoining", x.kept(24, 20), -1);
        checks.same("predecessor after rejoining", x.predecessor(24), -1);
        checks.same("fingers after rejoining", Checks.fingers(x, 24), "-1 -1 -1 -1 -1 -1");
        // 16 still knows 24, so the lookup of 24 itself ends at 16's next living successor.
        checks.same("successors after rejoining", Checks.successors(x, 24), "32 48 0");
        checks.same("16 knows the node that lives again", x.liveSuccessor(16), 24);
        checks.same("24 is right but for what it does not know", x.wrongPointers(), 7);
    }

    private static void fail() {
        ChordOverlay x = Checks.ring(0, 8, 16, 24, 32, 48);
        x.put(0, 20, 5);
        checks.same("keepers(20) before", x.keepers(20), 3);
        checks.same("fail(24)", x.fail(24), 5);
        checks.same("isLiving(24)", x.isLiving(24), false);
        checks.same("16 is not told", Checks.successors(x, 16), "24 32 48");
        checks.same("32 is not told", x.predecessor(32), 24);
        checks.same("fingers of 0 are not told", Checks.fingers(x, 0), "8 8 8 8 16 32");
        checks.same("fingers of 8 are not told", Checks.fingers(x, 8), "16 16 16 16 24 48");
        checks.same("its value is gone", x.keepers(20), 2);
        checks.same("no value goes over", x.kept(16, 20), -1);
        checks.same("fail(0)", x.fail(0), 4);
        x.fail(8);
        x.fail(16);
        x.fail(32);
        checks.same("fail of the last", x.fail(48), 0);
        checks.same("keepers(20) of nobody", x.keepers(20), 0);
    }

    private static void failRefuses() {
        ChordOverlay x = Checks.ring(10, 40);
        checks.outOfRange("fail(-1)", () -> x.fail(-1));
        checks.outOfRange("fail(64)", () -> x.fail(64));
        checks.badState("fail(11)", () -> x.fail(11));
        x.fail(40);
        checks.badState("fail(40) again", () -> x.fail(40));
        checks.same("living() after refusals", x.living(), 1);
        checks.badState("fail on a new object", () -> new ChordOverlay().fail(0));
    }

    private static void leave() {
        ChordOverlay x = Checks.ring(0, 8, 16, 24, 32, 48);
        checks.same("leave(24)", x.leave(24), 5);
        checks.same("isLiving(24)", x.isLiving(24), false);
        checks.same("32 has the predecessor of 24", x.predecessor(32), 16);
        checks.same("16 has 32 and its successors", Checks.successors(x, 16), "32 48 0");
        checks.same("8 is not told", Checks.successors(x, 8), "16 24 32");

        ChordOverlay two = Checks.ring(10, 40);
        two.leave(40);
        checks.same("two: 10 is its own predecessor", two.predecessor(10), 10);
        checks.same("two: 10 gets itself and its first two, as they were", Checks.successors(two, 10), "10 40 10");

        ChordOverlay dead = Checks.ring(0, 8, 16, 24, 32, 48);
        dead.fail(32);
        dead.leave(24);
        checks.same("the live successor gets the predecessor", dead.predecessor(48), 16);
        checks.same("the predecessor gets the live successor", Checks.successors(dead, 16), "48 0 8");
    }

    private static void leaveGivesCopies() {
        ChordOverlay x = new ChordOverlay();
        x.create(10);
        x.put(10, 0, 1);
        x.put(10, 6, 2);
        x.put(10, 63, 3);
        x.join(40, 10);
        x.stabilize(40);
        checks.same("stabilize(10)", x.stabilize(10), 40);
        checks.same("40 keeps none before", x.kept(40, 6), -1);
        x.leave(10);
        checks.same("40 got key 0", x.kept(40, 0), 1);
        checks.same("40 got key 6", x.kept(40, 6), 2);
        checks.same("40 got key 63", x.kept(40, 63), 3);
        checks.same("40 got no key 8", x.kept(40, 8), -1);

        ChordOverlay older = olderAt48();
        older.leave(32);
        checks.same("a newer copy replaces an older one", older.kept(48, 20), 2);
        checks.same("only the live successor gets it", older.kept(0, 20), -1);

        ChordOverlay newer = newerAt8();
        newer.leave(0);
        checks.same("an older copy does not replace a newer one", newer.kept(8, 60), 2);
    }

    /** 20, 24 and 32 keep 2 for the key 20, put last; 48 still keeps 1. */
    private static ChordOverlay olderAt48() {
        ChordOverlay x = Checks.ring(0, 8, 16, 24, 32, 48);
        x.put(0, 20, 1);
        x.join(20, 0);
        x.stabilize(20);
        x.stabilize(16);
        checks.same("20 found by now", x.put(0, 20, 2), 20);
        checks.same("32 keeps the newer", x.kept(32, 20), 2);
        checks.same("48 keeps the older", x.kept(48, 20), 1);
        return x;
    }

    /** 8, all of whose successors are dead, keeps 2 for the key 60, put last; 0 still keeps 1. */
    private static ChordOverlay newerAt8() {
        ChordOverlay x = Checks.ring(0, 8, 16, 24, 32);
        checks.same("put(32, 60, 1)", x.put(32, 60, 1), 0);
        x.fail(16);
        x.fail(24);
        x.fail(32);
        checks.same("put(8, 60, 2)", x.put(8, 60, 2), 8);
        checks.same("0 keeps the older", x.kept(0, 60), 1);
        checks.same("8 is the live successor of 0", x.liveSuccessor(0), 8);
        checks.same("8 is its own live successor", x.liveSuccessor(8), 8);
        return x;
    }

    private static void leaveWithoutLivingPredecessor() {
        ChordOverlay none = Checks.ring(0, 8, 16, 24, 32, 48);
        none.join(20, 0);
        checks.same("leave(20) with no predecessor", none.leave(20), 6);
        checks.same("24 has none then either", none.predecessor(24), -1);
        checks.same("16 is not told", Checks.successors(none, 16), "24 32 48");

        ChordOverlay dead = Checks.ring(0, 8, 16, 24, 32, 48);
        dead.fail(16);
        checks.same("leave(24) with a dead predecessor", dead.leave(24), 4);
        checks.same("32 has the dead predecessor", dead.predecessor(32), 16);
        checks.same("8 is not told", Checks.successors(dead, 8), "16 24 32");
    }

    private static void leaveAlone() {
        ChordOverlay x = new ChordOverlay();
        x.create(7);
        x.put(7, 9, 5);
        checks.same("leave(7) of the only node", x.leave(7), 0);
        checks.same("keepers(9) of nobody", x.keepers(9), 0);
        checks.same("owner(9) of nobody", x.owner(9), -1);

        ChordOverlay apart = newerAt8();
        checks.same("leave(8), its own live successor", apart.leave(8), 1);
        checks.same("0 got nothing", apart.kept(0, 60), 1);
        checks.same("0 keeps its successors", Checks.successors(apart, 0), "8 16 24");
        checks.same("0 keeps its predecessor", apart.predecessor(0), 32);
    }

    private static void leaveRefuses() {
        ChordOverlay x = Checks.ring(10, 40);
        checks.outOfRange("leave(-1)", () -> x.leave(-1));
        checks.outOfRange("leave(64)", () -> x.leave(64));
        checks.badState("leave(11)", () -> x.leave(11));
        checks.same("wrongPointers() after refusals", x.wrongPointers(), 0);
        x.leave(40);
        checks.badState("leave(40) again", () -> x.leave(40));
        checks.same("living() after refusals", x.living(), 1);
        checks.badState("leave on a new object", () -> new ChordOverlay().leave(0));
    }

    private static void living() {
        ChordOverlay x = new ChordOverlay();
        checks.same("living() 0", x.living(), 0);
        x.create(0);
        for (int node = 1; node < 64; node++) {
            x.join(node, node - 1);
            checks.same("living() as nodes join", x.living(), node + 1);
        }
        x.fail(63);
        checks.same("living() after fail", x.living(), 63);
        x.leave(62);
        checks.same("living() after leave", x.living(), 62);
        checks.same("living() again", x.living(), 62);
    }

    private static void isLiving() {
        ChordOverlay x = Checks.ring(0, 63);
        checks.same("isLiving(0)", x.isLiving(0), true);
        checks.same("isLiving(63)", x.isLiving(63), true);
        checks.same("isLiving(1)", x.isLiving(1), false);
        x.fail(0);
        x.leave(63);
        checks.same("isLiving(0) failed", x.isLiving(0), false);
        checks.same("isLiving(63) left", x.isLiving(63), false);
        checks.outOfRange("isLiving(-1)", () -> x.isLiving(-1));
        checks.outOfRange("isLiving(64)", () -> x.isLiving(64));
        checks.outOfRange("isLiving(greatest int)", () -> x.isLiving(Integer.MAX_VALUE));
    }
}
