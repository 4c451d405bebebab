/** Each call of the face that takes arguments, with the range that the document tells for each of them. */
final class FaceCall {
    interface Asked {
        long on(ChordOverlay overlay, int[] given);
    }

    /** What the first argument names: a node that must live, one that must not, or no node. */
    enum First { LIVES, JOINS, IS_FREE }

    static final FaceCall[] ALL = {
        new FaceCall("create", First.JOINS, (x, a) -> x.create(a[0]), 0, 63),
        new FaceCall("join", First.JOINS, (x, a) -> x.join(a[0], a[1]), 0, 63, 0, 63),
        new FaceCall("fail", First.LIVES, (x, a) -> x.fail(a[0]), 0, 63),
        new FaceCall("leave", First.LIVES, (x, a) -> x.leave(a[0]), 0, 63),
        new FaceCall("isLiving", First.IS_FREE, (x, a) -> x.isLiving(a[0]) ? 1 : 0, 0, 63),
        new FaceCall("successor", First.LIVES, (x, a) -> x.successor(a[0], a[1]), 0, 63, 0, 2),
        new FaceCall("liveSuccessor", First.LIVES, (x, a) -> x.liveSuccessor(a[0]), 0, 63),
        new FaceCall("predecessor", First.LIVES, (x, a) -> x.predecessor(a[0]), 0, 63),
        new FaceCall("finger", First.LIVES, (x, a) -> x.finger(a[0], a[1]), 0, 63, 0, 5),
        new FaceCall("check", First.LIVES, (x, a) -> x.check(a[0]) ? 1 : 0, 0, 63),
        new FaceCall("stabilize", First.LIVES, (x, a) -> x.stabilize(a[0]), 0, 63),
        new FaceCall("fix", First.LIVES, (x, a) -> x.fix(a[0]), 0, 63),
        new FaceCall("replicate", First.LIVES, (x, a) -> x.replicate(a[0]), 0, 63),
        new FaceCall("goRounds", First.IS_FREE, (x, a) -> x.goRounds(a[0]), 1, 20),
        new FaceCall("lookup", First.LIVES, (x, a) -> x.lookup(a[0], a[1]), 0, 63, 0, 63),
        new FaceCall("hops", First.LIVES, (x, a) -> x.hops(a[0], a[1]), 0, 63, 0, 63),
        new FaceCall("hopAt", First.LIVES, (x, a) -> x.hopAt(a[0], a[1], 0), 0, 63, 0, 63),
        new FaceCall("put", First.LIVES, (x, a) -> x.put(a[0], a[1], a[2]), 0, 63, 0, 63, 0, 999),
        new FaceCall("get", First.LIVES, (x, a) -> x.get(a[0], a[1]), 0, 63, 0, 63),
        new FaceCall("kept", First.LIVES, (x, a) -> x.kept(a[0], a[1]), 0, 63, 0, 63),
        new FaceCall("keepers", First.IS_FREE, (x, a) -> x.keepers(a[0]), 0, 63),
        new FaceCall("owner", First.IS_FREE, (x, a) -> x.owner(a[0]), 0, 63),
        new FaceCall("roundsToRight", First.IS_FREE, (x, a) -> x.roundsToRight(a[0]), 1, 30),
    };

    final String name;
    final First first;
    final Asked asked;
    private final int[] ends;

    FaceCall(String name, First first, Asked asked, int... ends) {
        this.name = name;
        this.first = first;
        this.asked = asked;
        this.ends = ends;
    }

    int arguments() {
        return ends.length / 2;
    }

    int least(int argument) {
        return ends[2 * argument];
    }

    int greatest(int argument) {
        return ends[2 * argument + 1];
    }

    /** Just outside the range of an argument, and far outside: those too that look right by their last bits. */
    int[] outside(int argument) {
        int least = least(argument);
        int greatest = greatest(argument);
        return new int[] {
            least - 1, greatest + 1, -greatest - 1, least - 64, least + 1024, greatest + 65536,
            Integer.MIN_VALUE, Integer.MIN_VALUE + least, Integer.MAX_VALUE,
        };
    }

    /** Arguments in range: the node, and the least ones behind it. */
    int[] with(int node) {
        int[] given = new int[arguments()];
        for (int argument = 0; argument < given.length; argument++) {
            given[argument] = least(argument);
        }
        given[0] = first == First.IS_FREE ? given[0] : node;
        return given;
    }

    int[] with(int node, int argument, int value) {
        int[] given = with(node);
        given[argument] = value;
        return given;
    }

    String written(int[] given) {
        StringBuilder text = new StringBuilder(name).append('(');
        for (int argument = 0; argument < given.length; argument++) {
            text.append(argument == 0 ? "" : ", ").append(given[argument]);
        }
        return text.append(')').toString();
    }
}
