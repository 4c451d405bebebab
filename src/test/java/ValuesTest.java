/** Promises 20 to 23: values. */
public final class ValuesTest {
    private static final Checks checks = new Checks("ValuesTest");

    public static void main(String[] args) {
        put();
        putEdges();
        putPassesDeadSuccessors();
        putCountsTheSameSuccessorOnce();
        putAnew();
        putRefuses();
        get();
        getRefuses();
        kept();
        keepers();
        checks.tell();
    }

    private static void put() {
        ChordOverlay x = Checks.ring(0, 8, 16, 24, 32, 48);
        checks.same("put(0, 20, 5)", x.put(0, 20, 5), 24);
        int[] due = {-1, -1, -1, 5, 5, 5};
        int[] nodes = {0, 8, 16, 24, 32, 48};
        for (int i = 0; i < nodes.length; i++) {
            checks.same("kept(" + nodes[i] + ", 20)", x.kept(nodes[i], 20), due[i]);
        }
        checks.same("kept(24, 21), another key", x.kept(24, 21), -1);
        checks.same("put(0, 49, 6), around the circle", x.put(0, 49, 6), 0);
        checks.same("kept(8, 49)", x.kept(8, 49), 6);
        checks.same("kept(16, 49)", x.kept(16, 49), 6);
        checks.same("keepers(49)", x.keepers(49), 3);
        checks.same("no pointer changed", x.wrongPointers(), 0);
    }

    private static void putEdges() {
        ChordOverlay x = new ChordOverlay();
        x.create(5);
        checks.same("put(5, 0, 0)", x.put(5, 0, 0), 5);
        checks.same("put(5, 63, 999)", x.put(5, 63, 999), 5);
        checks.same("get(5, 0)", x.get(5, 0), 0);
        checks.same("get(5, 63)", x.get(5, 63), 999);
        checks.same("keepers(0), of the value 0", x.keepers(0), 1);

        ChordOverlay two = Checks.ring(10, 40);
        two.put(10, 20, 7);
        checks.same("two nodes: keepers(20)", two.keepers(20), 2);

        ChordOverlay unknown = new ChordOverlay();
        unknown.create(10);
        unknown.join(40, 10);
        checks.same("put(40, 20, 1), 40 not yet known", unknown.put(40, 20, 1), 10);
        checks.same("only 10 keeps it", unknown.keepers(20), 1);
    }

    private static void putPassesDeadSuccessors() {
        ChordOverlay x = Checks.ring(0, 8, 16, 24, 32, 48);
        x.fail(32);
        x.put(0, 20, 5);
        checks.same("kept(48, 20)", x.kept(48, 20), 5);
        checks.same("kept(0, 20), the second one that lives", x.kept(0, 20), 5);
        x.fail(48);
        x.put(0, 20, 6);
        checks.same("kept(0, 20), the only one that lives", x.kept(0, 20), 6);
        checks.same("keepers(20)", x.keepers(20), 2);
        x.fail(0);
        x.put(8, 20, 7);
        checks.same("keepers(20) when no successor lives", x.keepers(20), 1);
    }

    /** 10 knows 20, 20 and 30: the two that get copies are 20 and 30. */
    private static void putCountsTheSameSuccessorOnce() {
        ChordOverlay x = Checks.oneTwice();
        checks.same("successors of 10", Checks.successors(x, 10), "20 20 30");
        checks.same("put(20, 8, 7)", x.put(20, 8, 7), 10);
        checks.same("kept(20, 8)", x.kept(20, 8), 7);
        checks.same("kept(30, 8)", x.kept(30, 8), 7);
        checks.same("keepers(8)", x.keepers(8), 3);
    }

    private static void putAnew() {
        ChordOverlay x = Checks.ring(0, 8, 16, 24, 32, 48);
        x.put(0, 20, 9);
        x.put(8, 20, 3);
        checks.same("the later put counts, not the greater value", x.kept(24, 20), 3);
        checks.same("at the successors too", x.kept(48, 20), 3);
        x.put(8, 20, 3);
        checks.same("the same value again", x.keepers(20), 3);
        checks.same("replicate(24) after it", x.replicate(24), 0);
    }

    private static void putRefuses() {
        ChordOverlay x = Checks.ring(10, 40);
        checks.outOfRange("put(-1, 0, 0)", () -> x.put(-1, 0, 0));
        checks.outOfRange("put(64, 0, 0)", () -> x.put(64, 0, 0));
        checks.outOfRange("put(10, -1, 0)", () -> x.put(10, -1, 0));
        checks.outOfRange("put(10, 64, 0)", () -> x.put(10, 64, 0));
        checks.outOfRange("put(10, 0, -1)", () -> x.put(10, 0, -1));
        checks.outOfRange("put(10, 0, 1000)", () -> x.put(10, 0, 1000));
        checks.outOfRange("put(11, 0, 1000): the range goes first", () -> x.put(11, 0, 1000));
        checks.badState("put(11, 0, 0)", () -> x.put(11, 0, 0));
        checks.same("keepers(0) after refusals", x.keepers(0), 0);
    }

    private static void get() {
        ChordOverlay x = Checks.ring(0, 8, 16, 24, 32, 48);
        x.put(0, 20, 5);
        checks.same("get(0, 20)", x.get(0, 20), 5);
        checks.same("get(24, 20)", x.get(24, 20), 5);
        checks.same("get(48, 20)", x.get(48, 20), 5);
        checks.same("get(0, 21), never put", x.get(0, 21), -1);
        x.fail(24);
        checks.same("get(0, 20) from the copy", x.get(0, 20), 5);
        x.fail(32);
        checks.same("get(0, 20) from the last copy", x.get(0, 20), 5);
        x.fail(48);
        checks.same("get(16, 20), all copies lost", x.get(16, 20), -1);

        ChordOverlay y = Checks.ring(0, 8, 16, 24, 32, 48);
        y.put(0, 20, 5);
        y.join(20, 0);
        y.stabilize(20);
        y.stabilize(16);
        checks.same("get(0, 20): 20 is found, and keeps none yet", y.get(0, 20), -1);
        checks.same("get(20, 20): all of it around", y.get(20, 20), -1);
        checks.same("kept(24, 20) all the same", y.kept(24, 20), 5);
        checks.same("get(24, 20): what it keeps itself does not count", y.get(24, 20), -1);

        ChordOverlay unknown = new ChordOverlay();
        unknown.create(10);
        unknown.join(40, 10);
        unknown.put(10, 20, 1);
        checks.same("get(40, 20): found at 10, though 40 owns it", unknown.get(40, 20), 1);
    }

    private static void getRefuses() {
        ChordOverlay x = Checks.ring(10, 40);
        checks.outOfRange("get(-1, 0)", () -> x.get(-1, 0));
        checks.outOfRange("get(64, 0)", () -> x.get(64, 0));
        checks.outOfRange("get(10, -1)", () -> x.get(10, -1));
        checks.outOfRange("get(10, 64)", () -> x.get(10, 64));
        checks.outOfRange("get(11, 64): the range goes first", () -> x.get(11, 64));
        checks.badState("get(11, 0)", () -> x.get(11, 0));
    }

    private static void kept() {
        ChordOverlay x = Checks.ring(10, 40);
        x.put(10, 20, 7);
        checks.same("kept(10, 20), a copy", x.kept(10, 20), 7);
        checks.same("kept(40, 20)", x.kept(40, 20), 7);
        checks.same("kept(40, 19)", x.kept(40, 19), -1);
        checks.same("kept(40, 21)", x.kept(40, 21), -1);
        x.goRounds(20);
        checks.same("kept(10, 20): no value is given up", x.kept(10, 20), 7);
        checks.outOfRange("kept(-1, 0)", () -> x.kept(-1, 0));
        checks.outOfRange("kept(64, 0)", () -> x.kept(64, 0));
        checks.outOfRange("kept(10, -1)", () -> x.kept(10, -1));
        checks.outOfRange("kept(10, 64)", () -> x.kept(10, 64));
        checks.outOfRange("kept(11, 64): the range goes first", () -> x.kept(11, 64));
        checks.badState("kept(11, 20)", () -> x.kept(11, 20));
        x.fail(40);
        checks.badState("kept(40, 20) after failing", () -> x.kept(40, 20));
    }

    private static void keepers() {
        ChordOverlay x = Checks.ring(0, 8, 16, 24, 32, 48);
        checks.same("keepers(20) of nothing", x.keepers(20), 0);
        x.put(0, 20, 1);
        checks.same("keepers(20)", x.keepers(20), 3);
        x.join(20, 0);
        x.stabilize(20);
        x.stabilize(16);
        x.put(0, 20, 2);
        checks.same("kept(48, 20), the older value", x.kept(48, 20), 1);
        checks.same("keepers(20), whichever value", x.keepers(20), 4);
        x.fail(24);
        checks.same("keepers(20) after failing", x.keepers(20), 3);
        x.leave(48);
        checks.same("keepers(20) after leaving: 0 got the copy", x.keepers(20), 3);
        checks.same("keepers(21)", x.keepers(21), 0);
        checks.outOfRange("keepers(-1)", () -> x.keepers(-1));
        checks.outOfRange("keepers(64)", () -> x.keepers(64));
        checks.same("keepers(0) of nobody", new ChordOverlay().keepers(0), 0);
    }
}
