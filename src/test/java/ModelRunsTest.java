/**
 * Runs of at most 512 calls on a new object and on a new Model, each answer compared. The runs are
 * drawn by a plain generator of numbers, so they are the same each time.
 */
public final class ModelRunsTest {
    private static final int RUNS = 3000;
    private static final int CALLS = 512;
    private static final int MOST_TOLD = 20;

    private long seed;
    private int wrong = 0;
    private long thrown = 0;
    private final long[] calls = new long[25];
    private final long[] answered = new long[25];

    private ChordOverlay overlay;
    private Model model;
    private int[] pool;
    private String last;

    private interface Answer {
        long give();
    }

    public static void main(String[] args) {
        new ModelRunsTest().goAll();
    }

    private void goAll() {
        for (int run = 0; run < RUNS && wrong < MOST_TOLD; run++) {
            goRun(run);
        }
        for (int method = 0; method < calls.length; method++) {
            if (wrong == 0 && answered[method] == 0) {
                wrong++;
                System.out.println("ModelRunsTest: no run has an answer of method " + method);
            }
        }
        System.out.println("ModelRunsTest: " + RUNS + " runs, " + thrown + " calls that throw, " + wrong + " wrong");
        if (wrong > 0) {
            System.exit(1);
        }
    }

    private void goRun(int run) {
        seed = 88172645463325252L + run * 1_000_003L;
        overlay = new ChordOverlay();
        model = new Model();
        pool = new int[1 + draw(run % 3 == 0 ? 64 : 9)];
        int start = draw(64);
        int step = draw(2) == 0 ? 1 : 1 + draw(63);
        for (int i = 0; i < pool.length; i++) {
            pool[i] = draw(8) == 0 ? draw(64) : (start + i * step) % 64;
        }
        int changing = draw(CALLS);
        for (int call = 0; call < CALLS; call++) {
            int method = call < changing ? draw(25) : observer();
            if (call == 0) {
                method = 0;
            }
            compare(run, call, method);
        }
    }

    private int observer() {
        int[] observers = {4, 5, 6, 7, 8, 9, 15, 16, 17, 19, 20, 21, 22, 23, 24};
        return observers[draw(observers.length)];
    }

    private int draw(int bound) {
        seed ^= seed << 13;
        seed ^= seed >>> 7;
        seed ^= seed << 17;
        return (int) Math.floorMod(seed >>> 11, (long) bound);
    }

    /** Mostly a node of the run's pool, at times any identifier, and rarely none at all. */
    private int node() {
        if (draw(60) == 0) {
            int[] outside = {-1, 64, 65, -64, Integer.MAX_VALUE, Integer.MIN_VALUE};
            return outside[draw(outside.length)];
        }
        return draw(10) == 0 ? draw(64) : pool[draw(pool.length)];
    }

    /** Mostly a node that lives, so that few calls throw. */
    private int peer() {
        int node = node();
        for (int tries = 0; tries < 6 && node >= 0 && node < 64 && !model.isLiving(node); tries++) {
            node = node();
        }
        return node;
    }

    /** Mostly a node that does not live, so that many may join. */
    private int newcomer() {
        int node = node();
        for (int tries = 0; tries < 6 && node >= 0 && node < 64 && model.isLiving(node); tries++) {
            node = node();
        }
        return node;
    }

    private int key() {
        return draw(3) == 0 ? draw(64) : node();
    }

    private int number(int least, int most) {
        return draw(40) == 0 ? (draw(2) == 0 ? least - 1 : most + 1) : least + draw(most - least + 1);
    }

    private void compare(int run, int call, int method) {
        // Failing and leaving are drawn less often, or few nodes would live.
        if ((method == 2 || method == 3) && draw(3) > 0) {
            method = 1;
        }
        Answer[] both = draw(method, method == 1 ? newcomer() : peer());
        String due = told(both[1]);
        String got = told(both[0]);
        calls[method]++;
        if (due.startsWith("throws")) {
            thrown++;
        } else {
            answered[method]++;
        }
        if (!got.equals(due)) {
            wrong++;
            System.out.println("run " + run + ", call " + call + ": " + last + " answered " + got + ", due is " + due);
        }
    }

    private static String told(Answer answer) {
        try {
            return "" + answer.give();
        } catch (RuntimeException e) {
            return "throws." + e.getClass().getSimpleName();
        }
    }

    private Answer[] draw(int method, int n) {
        return method < 14 ? nodesAndSteps(method, n) : lookupsValuesAndRing(method, n);
    }

    private Answer[] nodesAndSteps(int method, int n) {
        ChordOverlay o = overlay;
        Model m = model;
        int via = peer();
        int place = number(0, 2);
        int finger = number(0, 5);
        switch (method) {
            case 0: return call("create(" + n + ")", () -> o.create(n), () -> m.create(n));
            case 1: return call("join(" + n + ", " + via + ")", () -> o.join(n, via), () -> m.join(n, via));
            case 2: return call("fail(" + n + ")", () -> o.fail(n), () -> m.fail(n));
            case 3: return call("leave(" + n + ")", () -> o.leave(n), () -> m.leave(n));
            case 4: return call("living()", () -> o.living(), () -> m.living());
            case 5: return call("isLiving(" + n + ")", () -> o.isLiving(n) ? 1 : 0, () -> m.isLiving(n) ? 1 : 0);
            case 6: return call("successor(" + n + ", " + place + ")", () -> o.successor(n, place), () -> m.successor(n, place));
            case 7: return call("liveSuccessor(" + n + ")", () -> o.liveSuccessor(n), () -> m.liveSuccessor(n));
            case 8: return call("predecessor(" + n + ")", () -> o.predecessor(n), () -> m.predecessor(n));
            case 9: return call("finger(" + n + ", " + finger + ")", () -> o.finger(n, finger), () -> m.finger(n, finger));
            case 10: return call("check(" + n + ")", () -> o.check(n) ? 1 : 0, () -> m.check(n) ? 1 : 0);
            case 11: return call("stabilize(" + n + ")", () -> o.stabilize(n), () -> m.stabilize(n));
            case 12: return call("fix(" + n + ")", () -> o.fix(n), () -> m.fix(n));
            default: return call("replicate(" + n + ")", () -> o.replicate(n), () -> m.replicate(n));
        }
    }

    private Answer[] lookupsValuesAndRing(int method, int n) {
        ChordOverlay o = overlay;
        Model m = model;
        int k = key();
        int rounds = draw(12) == 0 ? number(1, 20) : 1;
        int hop = draw(4) == 0 ? -1 + draw(10) : draw(3);
        int value = number(0, 999);
        int most = number(1, 30);
        switch (method) {
            case 14: return call("goRounds(" + rounds + ")", () -> o.goRounds(rounds), () -> m.goRounds(rounds));
            case 15: return call("lookup(" + n + ", " + k + ")", () -> o.lookup(n, k), () -> m.lookup(n, k));
            case 16: return call("hops(" + n + ", " + k + ")", () -> o.hops(n, k), () -> m.hops(n, k));
            case 17: return call("hopAt(" + n + ", " + k + ", " + hop + ")", () -> o.hopAt(n, k, hop), () -> m.hopAt(n, k, hop));
            case 18: return call("put(" + n + ", " + k + ", " + value + ")", () -> o.put(n, k, value), () -> m.put(n, k, value));
            case 19: return call("get(" + n + ", " + k + ")", () -> o.get(n, k), () -> m.get(n, k));
            case 20: return call("kept(" + n + ", " + k + ")", () -> o.kept(n, k), () -> m.kept(n, k));
            case 21: return call("keepers(" + k + ")", () -> o.keepers(k), () -> m.keepers(k));
            case 22: return call("owner(" + k + ")", () -> o.owner(k), () -> m.owner(k));
            case 23: return call("wrongPointers()", () -> o.wrongPointers(), () -> m.wrongPointers());
            default: return call("roundsToRight(" + most + ")", () -> o.roundsToRight(most), () -> m.roundsToRight(most));
        }
    }

    private Answer[] call(String text, Answer ofOverlay, Answer ofModel) {
        last = text;
        return new Answer[] {ofOverlay, ofModel};
    }
}
