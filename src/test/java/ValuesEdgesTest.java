/**
 * Where values are kept, and where they are not: the edges that the document names under "Terms" for
 * values and in promises 20 to 23. Each test stands under the sentence that it holds.
 */
public final class ValuesEdgesTest {
    private static final Checks checks = new Checks("ValuesEdgesTest");
    private static final int[] SIX = {0, 8, 16, 24, 32, 48};

    public static void main(String[] args) {
        putAndStamps();
        getKeptAndKeepers();
        checks.tell();
    }

    private static void putAndStamps() {
        checks.edge("value: 0 to 999", ValuesEdgesTest::leastAndGreatestValue);
        checks.edge("key: 0 to 63", ValuesEdgesTest::eachKey);
        checks.edge("it is kept by the node that a lookup finds", ValuesEdgesTest::keptByWhatIsFound);
        checks.edge("by the first two of the successors of that", ValuesEdgesTest::twoOfThree);
        checks.edge("by the first two of the successors of that, past 63", ValuesEdgesTest::twoPastTheEnd);
        checks.edge("which live", ValuesEdgesTest::successorsThatLive);
        checks.edge("and are not that node", ValuesEdgesTest::notTheNodeItself);
        checks.edge("the same one counted once", ValuesEdgesTest::theSameOnce);
        checks.edge("Returns the node that was found.", ValuesEdgesTest::putAnswers);
        checks.edge("Each put has a stamp, greater than that of any put before", ValuesEdgesTest::laterPuts);
        checks.edge("greater than that of any put before: of the same value too", ValuesEdgesTest::sameValueAgain);
        checks.edge("greater than that of any put before: elsewhere too", ValuesEdgesTest::sameValueAfterAnother);
        checks.edge("kept by a node that has no value for the key", ValuesEdgesTest::noValueYet);
        checks.edge("or one with a lower stamp", ValuesEdgesTest::lowerStamp);
        checks.edge("or one with a lower stamp: not with the same", ValuesEdgesTest::sameStamp);
        checks.edge("or one with a lower stamp: not with a higher", ValuesEdgesTest::higherStamp);
        checks.edge("A copy of a value takes its stamp along", ValuesEdgesTest::stampsGoAlong);
        checks.edge("Nodes give no value up", ValuesEdgesTest::keptForGood);
        checks.edge("unless they fail or leave", ValuesEdgesTest::goneWithTheNode);
    }

    private static void getKeptAndKeepers() {
        checks.edge("Returns the value; -1 if that node keeps none.", ValuesEdgesTest::gotOrNone);
        checks.edge("that which is kept by the node that a lookup finds", ValuesEdgesTest::gotFromTheFoundAlone);
        checks.edge("Returns the value that a node keeps for a key, -1 if none.", ValuesEdgesTest::keptOrNone);
        checks.edge("Returns how many living nodes keep a value: 0 to 64", ValuesEdgesTest::keepersFromNoneToAll);
        checks.edge("keepers: living nodes", ValuesEdgesTest::keepersThatLive);
        checks.edge("whichever it is", ValuesEdgesTest::keepersOfAnyValue);
        checks.edge("IllegalStateException if from or the node does not live", ValuesEdgesTest::valuesOfTheDead);
    }

    // ---- promise 20, and the stamps

    private static void leastAndGreatestValue() {
        ChordOverlay x = Checks.ring(10, 40);
        for (int value : new int[] {0, 999, 1, 0}) {
            checks.same("put(10, 20, " + value + ")", x.put(10, 20, value), 40);
            checks.same("get(10, 20)", x.get(10, 20), value);
            checks.same("kept(10, 20), the copy", x.kept(10, 20), value);
            checks.same("keepers(20)", x.keepers(20), 2);
        }
        checks.outOfRange("put(10, 20, -1)", () -> x.put(10, 20, -1));
        checks.outOfRange("put(10, 20, 1000)", () -> x.put(10, 20, 1000));
        checks.same("get(10, 20) after refusals", x.get(10, 20), 0);
    }

    private static void eachKey() {
        ChordOverlay x = Checks.alone(63);
        for (int key = 0; key < 64; key++) {
            checks.same("put(63, " + key + ")", x.put(63, key, 999 - key), 63);
        }
        for (int key = 0; key < 64; key++) {
            checks.same("get(63, " + key + ")", x.get(63, key), 999 - key);
            checks.same("kept(63, " + key + ")", x.kept(63, key), 999 - key);
            checks.same("keepers(" + key + ")", x.keepers(key), 1);
        }
    }

    /** 40 owns the key, but nobody knows it yet; the node that puts keeps nothing. */
    private static void keptByWhatIsFound() {
        ChordOverlay x = Checks.joined(10, 40);
        checks.same("put(40, 20, 1)", x.put(40, 20, 1), 10);
        checks.same("kept(10, 20)", x.kept(10, 20), 1);
        checks.same("kept(40, 20)", x.kept(40, 20), -1);
    }

    private static void told(ChordOverlay x, int key, int... due) {
        for (int i = 0; i < SIX.length; i++) {
            if (x.isLiving(SIX[i])) {
                checks.same("kept(" + SIX[i] + ", " + key + ")", x.kept(SIX[i], key), due[i]);
            }
        }
    }

    private static void twoOfThree() {
        ChordOverlay x = Checks.ring(SIX);
        x.put(0, 8, 5);
        told(x, 8, -1, 5, 5, 5, -1, -1);
        x.put(0, 9, 6);
        told(x, 9, -1, -1, 6, 6, 6, -1);
    }

    private static void twoPastTheEnd() {
        ChordOverlay x = Checks.ring(SIX);
        x.put(0, 33, 5);
        told(x, 33, 5, 5, -1, -1, -1, 5);
        x.put(0, 49, 6);
        told(x, 49, 6, 6, 6, -1, -1, -1);
        ChordOverlay ends = Checks.ring(0, 1, 63);
        checks.same("put(0, 63, 7)", ends.put(0, 63, 7), 63);
        checks.same("keepers(63)", ends.keepers(63), 3);
    }

    private static void successorsThatLive() {
        ChordOverlay x = Checks.ring(SIX);
        x.fail(16);
        x.put(0, 8, 1);
        told(x, 8, -1, 1, -1, 1, 1, -1);
        x.fail(24);
        x.put(0, 8, 2);
        told(x, 8, -1, 2, -1, -1, 2, -1);
        x.fail(32);
        x.put(0, 8, 3);
        told(x, 8, -1, 3, -1, -1, -1, -1);
        x.join(24, 0);
        x.put(0, 8, 4);
        told(x, 8, -1, 4, -1, 4, -1, -1);
    }

    /** 0 knows itself as its first successor, or between two others. */
    private static void notTheNodeItself() {
        ChordOverlay x = Checks.ring(0, 40);
        x.fail(40);
        x.stabilize(0);
        x.join(40, 0);
        checks.same("successors of 0", Checks.successors(x, 0), "0 40 0");
        checks.same("put(0, 20, 5)", x.put(0, 20, 5), 0);
        checks.same("kept(40, 20)", x.kept(40, 20), 5);
        ChordOverlay between = Checks.ring(0, 20, 40);
        between.fail(20);
        between.stabilize(0);
        between.join(20, 0);
        checks.same("successors of 0, between", Checks.successors(between, 0), "40 0 20");
        checks.same("put(0, 60, 5)", between.put(0, 60, 5), 0);
        checks.same("kept(40, 60)", between.kept(40, 60), 5);
        checks.same("kept(20, 60)", between.kept(20, 60), 5);
        ChordOverlay alone = Checks.alone(63);
        alone.put(63, 0, 5);
        checks.same("keepers(0)", alone.keepers(0), 1);
    }

    private static void theSameOnce() {
        ChordOverlay x = Checks.oneTwice();
        checks.same("successors of 10", Checks.successors(x, 10), "20 20 30");
        checks.same("put(20, 8, 7)", x.put(20, 8, 7), 10);
        checks.same("kept(20, 8)", x.kept(20, 8), 7);
        checks.same("kept(30, 8)", x.kept(30, 8), 7);
        ChordOverlay two = Checks.ring(10, 40);
        checks.same("successors of 10 of two", Checks.successors(two, 10), "40 10 40");
        two.put(40, 5, 7);
        checks.same("keepers(5) of two", two.keepers(5), 2);
    }

    private static void putAnswers() {
        ChordOverlay x = Checks.ring(0, 63);
        checks.same("put(0, 0, 1)", x.put(0, 0, 1), 0);
        checks.same("put(63, 0, 1)", x.put(63, 0, 1), 0);
        checks.same("put(0, 1, 1)", x.put(0, 1, 1), 63);
        checks.same("put(63, 63, 1)", x.put(63, 63, 1), 63);
    }

    private static void laterPuts() {
        ChordOverlay x = Checks.ring(SIX);
        for (int i = 0; i < 60; i++) {
            x.put(SIX[i % 6], 20, 999 - i);
            checks.same("get(0, 20)", x.get(0, 20), 999 - i);
            checks.same("kept(48, 20)", x.kept(48, 20), 999 - i);
        }
    }

    /** 20, 24 and 32 keep the second put of the same value, 48 the first one. */
    private static ChordOverlay twoStamps(int first, int second) {
        ChordOverlay x = Checks.ring(SIX);
        x.put(0, 20, first);
        x.join(20, 0);
        x.stabilize(20);
        x.stabilize(16);
        x.put(0, 20, second);
        return x;
    }

    private static void sameValueAgain() {
        ChordOverlay x = twoStamps(5, 5);
        x.fail(20);
        x.fail(24);
        x.stabilize(16);
        checks.same("predecessor(32)", x.predecessor(32), 16);
        checks.same("replicate(32): 48 has the first, 0 none", x.replicate(32), 2);
        checks.same("replicate(32) again", x.replicate(32), 0);
        told(x, 20, 5, -1, -1, -1, 5, 5);
    }

    /** 0 and 32 have lost each other; each finds itself. By way of 8 the last put comes to 32. */
    private static void sameValueAfterAnother() {
        ChordOverlay x = Checks.ring(0, 8, 16, 24, 32, 40, 48, 56);
        for (int node : new int[] {8, 16, 24, 40, 48, 56}) {
            x.fail(node);
        }
        checks.same("put(0, 5, 1)", x.put(0, 5, 1), 0);
        checks.same("put(32, 5, 2)", x.put(32, 5, 2), 32);
        checks.same("put(0, 5, 1) again", x.put(0, 5, 1), 0);
        x.join(8, 32);
        checks.same("replicate(0), to 8", x.replicate(0), 1);
        x.leave(8);
        checks.same("kept(32, 5)", x.kept(32, 5), 1);
    }

    private static void noValueYet() {
        ChordOverlay x = Checks.ring(SIX);
        x.put(0, 8, 0);
        x.fail(16);
        checks.same("replicate(8), of the value 0", x.replicate(8), 1);
        checks.same("kept(32, 8)", x.kept(32, 8), 0);
        checks.same("replicate(8) again: 0 is a value", x.replicate(8), 0);
    }

    private static void lowerStamp() {
        ChordOverlay x = twoStamps(9, 2);
        told(x, 20, -1, -1, -1, 2, 2, 9);
        x.leave(32);
        checks.same("kept(48, 20): the later one, though less", x.kept(48, 20), 2);
        checks.same("kept(0, 20)", x.kept(0, 20), -1);
    }

    private static void sameStamp() {
        ChordOverlay x = Checks.ring(SIX);
        for (int node : new int[] {24, 32, 48}) {
            x.put(0, 20, 5);
            checks.same("replicate(" + node + ")", x.replicate(node), 0);
        }
    }

    /** 8, whose successors are dead, keeps the second put alone; 0 the first one, which 16 gets from it. */
    private static void higherStamp() {
        ChordOverlay x = Checks.ring(0, 8, 16, 24, 32);
        x.put(32, 60, 1);
        x.fail(16);
        x.fail(24);
        x.fail(32);
        checks.same("put(8, 60, 2)", x.put(8, 60, 2), 8);
        checks.same("kept(0, 60)", x.kept(0, 60), 1);
        checks.same("replicate(0): 8 has a later one", x.replicate(0), 0);
        checks.same("kept(8, 60)", x.kept(8, 60), 2);
        x.join(16, 0);
        checks.same("replicate(0): 16 has none", x.replicate(0), 1);
        checks.same("kept(16, 60)", x.kept(16, 60), 1);
        x.leave(0);
        checks.same("kept(8, 60) after 0 left", x.kept(8, 60), 2);
    }

    /** A copy of a copy is as old as the put: nobody who has the put's own keeps it. */
    private static void stampsGoAlong() {
        ChordOverlay x = Checks.ring(SIX);
        x.put(0, 8, 5);
        x.fail(16);
        checks.same("replicate(8), to 32", x.replicate(8), 1);
        checks.same("replicate(32), back to 8", x.replicate(32), 0);
        checks.same("replicate(24), back to 8", x.replicate(24), 0);
        x.fail(24);
        checks.same("replicate(8), to 32 again", x.replicate(8), 0);
        checks.same("put(0, 8, 4)", x.put(0, 8, 4), 8);
        told(x, 8, -1, 4, -1, -1, 4, -1);
        x.leave(8);
        checks.same("kept(32, 8)", x.kept(32, 8), 4);
        checks.same("replicate(32), to 48 and 0", x.replicate(32), 2);
        checks.same("kept(0, 8)", x.kept(0, 8), 4);
    }

    private static void keptForGood() {
        ChordOverlay x = Checks.ring(SIX);
        x.put(0, 20, 5);
        x.join(20, 0);
        x.goRounds(20);
        checks.same("owner(20)", x.owner(20), 20);
        told(x, 20, -1, -1, -1, 5, 5, 5);
        checks.same("kept(20, 20)", x.kept(20, 20), 5);
        checks.same("keepers(20)", x.keepers(20), 4);
        checks.same("leave(8)", x.leave(8), 6);
        checks.same("keepers(20) when another left", x.keepers(20), 4);
    }

    private static void goneWithTheNode() {
        ChordOverlay x = Checks.ring(SIX);
        x.put(0, 20, 5);
        x.fail(48);
        x.join(48, 0);
        checks.same("kept(48, 20) after failing", x.kept(48, 20), -1);
        checks.same("keepers(20)", x.keepers(20), 2);
        x.leave(32);
        x.join(32, 24);
        checks.same("kept(32, 20) after leaving", x.kept(32, 20), -1);
        checks.same("kept(48, 20), which got its copy", x.kept(48, 20), 5);
        checks.same("keepers(20) then", x.keepers(20), 2);
    }

    // ---- promises 21 to 23

    private static void gotOrNone() {
        ChordOverlay x = Checks.ring(0, 63);
        checks.same("get(0, 0), never put", x.get(0, 0), -1);
        checks.same("get(63, 63), never put", x.get(63, 63), -1);
        x.put(0, 63, 0);
        checks.same("get(0, 63), the value 0", x.get(0, 63), 0);
        checks.same("get(0, 62), another key", x.get(0, 62), -1);
        checks.same("get(0, 0), another key", x.get(0, 0), -1);
    }

    private static void gotFromTheFoundAlone() {
        ChordOverlay x = Checks.ring(SIX);
        x.put(0, 20, 5);
        x.join(20, 0);
        x.stabilize(20);
        x.stabilize(16);
        checks.same("lookup(24, 20)", x.lookup(24, 20), 20);
        checks.same("kept(24, 20)", x.kept(24, 20), 5);
        checks.same("get(24, 20)", x.get(24, 20), -1);
        checks.same("get(20, 20)", x.get(20, 20), -1);
        ChordOverlay unknown = Checks.joined(10, 40);
        unknown.put(10, 20, 1);
        checks.same("owner(20)", unknown.owner(20), 40);
        checks.same("get(40, 20), found at 10", unknown.get(40, 20), 1);
    }

    private static void keptOrNone() {
        ChordOverlay x = Checks.ring(SIX);
        checks.same("kept(0, 0), never put", x.kept(0, 0), -1);
        x.put(0, 0, 0);
        x.put(0, 63, 999);
        checks.same("kept(0, 0)", x.kept(0, 0), 0);
        checks.same("kept(0, 63)", x.kept(0, 63), 999);
        checks.same("kept(0, 1)", x.kept(0, 1), -1);
        checks.same("kept(0, 62)", x.kept(0, 62), -1);
        checks.same("kept(8, 63), a copy", x.kept(8, 63), 999);
        checks.same("kept(48, 63), no copy", x.kept(48, 63), -1);
    }

    /** Each node that joins below is the next owner of the key 0, and gets its copy. */
    private static void keepersFromNoneToAll() {
        ChordOverlay x = Checks.alone(63);
        checks.same("keepers(0) of none", x.keepers(0), 0);
        x.put(63, 0, 7);
        checks.same("keepers(0) of one", x.keepers(0), 1);
        for (int node = 62; node >= 0; node--) {
            x.join(node, 63);
            x.goRounds(2);
            checks.same("keepers(0)", x.keepers(0), 64 - node);
        }
        checks.same("keepers(1)", x.keepers(1), 0);
        checks.same("keepers(63)", x.keepers(63), 0);
    }

    private static void keepersThatLive() {
        ChordOverlay x = Checks.ring(SIX);
        x.put(0, 20, 5);
        x.fail(24);
        checks.same("keepers(20), one failed", x.keepers(20), 2);
        x.fail(32);
        x.fail(48);
        checks.same("keepers(20), all failed", x.keepers(20), 0);
        x.join(48, 0);
        checks.same("keepers(20), one lives again", x.keepers(20), 0);
        checks.same("keepers(0) of nobody", new ChordOverlay().keepers(0), 0);
        checks.same("keepers(63) of nobody", new ChordOverlay().keepers(63), 0);
    }

    private static void keepersOfAnyValue() {
        ChordOverlay x = twoStamps(9, 0);
        told(x, 20, -1, -1, -1, 0, 0, 9);
        checks.same("kept(20, 20)", x.kept(20, 20), 0);
        checks.same("keepers(20)", x.keepers(20), 4);
    }

    private static void valuesOfTheDead() {
        ChordOverlay x = Checks.ring(0, 31, 63);
        x.put(0, 0, 5);
        x.fail(0);
        x.leave(63);
        for (int node : new int[] {0, 63, 5}) {
            checks.badState("put(" + node + ", 0, 0)", () -> x.put(node, 0, 0));
            checks.badState("get(" + node + ", 0)", () -> x.get(node, 0));
            checks.badState("kept(" + node + ", 0)", () -> x.kept(node, 0));
        }
        checks.same("kept(31, 0)", x.kept(31, 0), 5);
        checks.badState("put(0, 0, 0) on a new object", () -> new ChordOverlay().put(0, 0, 0));
        checks.badState("get(0, 0) on a new object", () -> new ChordOverlay().get(0, 0));
        checks.badState("kept(63, 0) on a new object", () -> new ChordOverlay().kept(63, 0));
    }
}
