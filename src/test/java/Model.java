import java.util.ArrayList;
import java.util.Arrays;
import java.util.List;
import java.util.Map;
import java.util.TreeMap;

/**
 * The document told once more, slowly and by its words: stretches of the circle are walked, nodes
 * are objects, and rounds ahead are gone on a copy of everything. ModelRunsTest compares the two.
 */
final class Model {
    private record Copy(int value, int stamp) {
    }

    private static final class Peer {
        final int id;
        List<Integer> successors = new ArrayList<>();
        Integer predecessor = null;
        Integer[] fingers = new Integer[6];
        TreeMap<Integer, Copy> store = new TreeMap<>();

        Peer(int id) {
            this.id = id;
        }

        Peer copy() {
            Peer other = new Peer(id);
            other.successors = new ArrayList<>(successors);
            other.predecessor = predecessor;
            other.fingers = fingers.clone();
            other.store = new TreeMap<>(store);
            return other;
        }
    }

    private final TreeMap<Integer, Peer> living = new TreeMap<>();
    private int puts = 0;

    private static boolean upTo(int x, int a, int b) {
        int met = a;
        do {
            met = met == 63 ? 0 : met + 1;
            if (met == x) {
                return true;
            }
        } while (met != b);
        return false;
    }

    private static boolean between(int x, int a, int b) {
        return x != b && upTo(x, a, b);
    }

    private static void identifier(int... numbers) {
        for (int number : numbers) {
            range(number, 0, 63);
        }
    }

    private static void range(int number, int least, int most) {
        if (number < least || number > most) {
            throw new IllegalArgumentException();
        }
    }

    private Peer alive(int node) {
        Peer peer = living.get(node);
        if (peer == null) {
            throw new IllegalStateException();
        }
        return peer;
    }

    private boolean lives(Integer node) {
        return node != null && living.containsKey(node);
    }

    private Peer liveSuccessorOf(Peer n) {
        for (int s : n.successors) {
            if (lives(s)) {
                return living.get(s);
            }
        }
        return n;
    }

    /** The nodes of a lookup, and behind them what it finds. */
    private List<Integer> walk(int from, int key) {
        List<Integer> walked = new ArrayList<>();
        Peer n = living.get(from);
        while (true) {
            walked.add(n.id);
            Peer s = liveSuccessorOf(n);
            if (upTo(key, n.id, s.id)) {
                walked.add(s.id);
                return walked;
            }
            Peer next = null;
            for (int i = 5; i >= 0 && next == null; i--) {
                if (lives(n.fingers[i]) && between(n.fingers[i], n.id, key)) {
                    next = living.get(n.fingers[i]);
                }
            }
            n = next == null ? s : next;
        }
    }

    private Peer found(int from, int key) {
        List<Integer> walked = walk(from, key);
        return living.get(walked.get(walked.size() - 1));
    }

    private static List<Integer> behind(Peer s) {
        return new ArrayList<>(Arrays.asList(s.id, s.successors.get(0), s.successors.get(1)));
    }

    private static boolean take(Peer to, int key, Copy copy) {
        Copy has = to.store.get(key);
        if (has != null && has.stamp() >= copy.stamp()) {
            return false;
        }
        to.store.put(key, copy);
        return true;
    }

    private List<Peer> heirs(Peer n) {
        List<Peer> heirs = new ArrayList<>();
        for (int s : n.successors) {
            if (lives(s) && s != n.id && !heirs.contains(living.get(s)) && heirs.size() < 2) {
                heirs.add(living.get(s));
            }
        }
        return heirs;
    }

    private int ownerOf(int key) {
        for (int i = 0; i < 64; i++) {
            if (lives((key + i) % 64)) {
                return (key + i) % 64;
            }
        }
        return -1;
    }

    int create(int node) {
        identifier(node);
        if (!living.isEmpty()) {
            throw new IllegalStateException();
        }
        Peer peer = new Peer(node);
        peer.successors = new ArrayList<>(List.of(node, node, node));
        living.put(node, peer);
        return 1;
    }

    int join(int node, int via) {
        identifier(node, via);
        if (lives(node)) {
            throw new IllegalStateException();
        }
        alive(via);
        Peer peer = new Peer(node);
        peer.successors = behind(found(via, node));
        living.put(node, peer);
        return peer.successors.get(0);
    }

    int fail(int node) {
        identifier(node);
        alive(node);
        living.remove(node);
        return living.size();
    }

    int leave(int node) {
        identifier(node);
        Peer peer = alive(node);
        Peer s = liveSuccessorOf(peer);
        if (s != peer) {
            for (Map.Entry<Integer, Copy> each : peer.store.entrySet()) {
                take(s, each.getKey(), each.getValue());
            }
            s.predecessor = peer.predecessor;
            if (lives(peer.predecessor) && peer.predecessor != node) {
                living.get(peer.predecessor).successors = behind(s);
            }
        }
        living.remove(node);
        return living.size();
    }

    int living() {
        return living.size();
    }

    boolean isLiving(int node) {
        identifier(node);
        return lives(node);
    }

    int successor(int node, int place) {
        identifier(node);
        range(place, 0, 2);
        return alive(node).successors.get(place);
    }

    int liveSuccessor(int node) {
        identifier(node);
        return liveSuccessorOf(alive(node)).id;
    }

    int predecessor(int node) {
        identifier(node);
        Integer before = alive(node).predecessor;
        return before == null ? -1 : before;
    }

    int finger(int node, int number) {
        identifier(node);
        range(number, 0, 5);
        Integer finger = alive(node).fingers[number];
        return finger == null ? -1 : finger;
    }

    boolean check(int node) {
        identifier(node);
        Peer n = alive(node);
        if (!lives(n.predecessor)) {
            n.predecessor = null;
        }
        return n.predecessor != null;
    }

    int stabilize(int node) {
        identifier(node);
        Peer n = alive(node);
        Peer s = liveSuccessorOf(n);
        Integer x = s.predecessor;
        if (lives(x) && between(x, node, s.id)) {
            s = living.get(x);
        }
        n.successors = behind(s);
        if (s.predecessor == null || !lives(s.predecessor) || between(node, s.predecessor, s.id)) {
            s.predecessor = node;
        }
        return n.successors.get(0);
    }

    int fix(int node) {
        identifier(node);
        Peer n = alive(node);
        int others = 0;
        int power = 1;
        for (int i = 0; i <= 5; i++) {
            Integer was = n.fingers[i];
            n.fingers[i] = found(node, (node + power) % 64).id;
            others += n.fingers[i].equals(was) ? 0 : 1;
            power *= 2;
        }
        return others;
    }

    int replicate(int node) {
        identifier(node);
        Peer n = alive(node);
        int taken = 0;
        for (int key = 0; key < 64; key++) {
            Copy copy = n.store.get(key);
            if (copy == null) {
                continue;
            }
            boolean anothers = n.predecessor != null && !upTo(key, n.predecessor, node);
            for (Peer to : anothers ? List.of(found(node, key)) : heirs(n)) {
                taken += take(to, key, copy) ? 1 : 0;
            }
        }
        return taken;
    }

    private void round() {
        for (int node : new ArrayList<>(living.keySet())) {
            check(node);
            stabilize(node);
            fix(node);
            replicate(node);
        }
    }

    int goRounds(int rounds) {
        range(rounds, 1, 20);
        for (int i = 0; i < rounds; i++) {
            round();
        }
        return wrongPointers();
    }

    int lookup(int from, int key) {
        identifier(from, key);
        alive(from);
        return found(from, key).id;
    }

    int hops(int from, int key) {
        identifier(from, key);
        alive(from);
        return walk(from, key).size() - 2;
    }

    int hopAt(int from, int key, int hop) {
        identifier(from, key);
        alive(from);
        List<Integer> walked = walk(from, key);
        if (hop < 0 || hop > walked.size() - 2) {
            throw new IndexOutOfBoundsException();
        }
        return walked.get(hop);
    }

    int put(int from, int key, int value) {
        identifier(from, key);
        range(value, 0, 999);
        alive(from);
        Copy copy = new Copy(value, ++puts);
        Peer found = found(from, key);
        take(found, key, copy);
        for (Peer heir : heirs(found)) {
            take(heir, key, copy);
        }
        return found.id;
    }

    int get(int from, int key) {
        identifier(from, key);
        alive(from);
        return kept(found(from, key).id, key);
    }

    int kept(int node, int key) {
        identifier(node, key);
        Copy copy = alive(node).store.get(key);
        return copy == null ? -1 : copy.value();
    }

    int keepers(int key) {
        identifier(key);
        int count = 0;
        for (Peer peer : living.values()) {
            count += peer.store.containsKey(key) ? 1 : 0;
        }
        return count;
    }

    int owner(int key) {
        identifier(key);
        return ownerOf(key);
    }

    int wrongPointers() {
        int wrong = 0;
        for (Peer n : living.values()) {
            Integer up = living.higherKey(n.id) == null ? living.firstKey() : living.higherKey(n.id);
            Integer down = living.lowerKey(n.id) == null ? living.lastKey() : living.lowerKey(n.id);
            wrong += liveSuccessorOf(n).id == up ? 0 : 1;
            wrong += down.equals(n.predecessor) ? 0 : 1;
            for (int i = 0; i < 6; i++) {
                int owner = ownerOf((n.id + List.of(1, 2, 4, 8, 16, 32).get(i)) % 64);
                wrong += n.fingers[i] != null && n.fingers[i] == owner ? 0 : 1;
            }
        }
        return wrong;
    }

    int roundsToRight(int most) {
        range(most, 1, 30);
        Model ahead = new Model();
        for (Peer peer : living.values()) {
            ahead.living.put(peer.id, peer.copy());
        }
        for (int rounds = 0; rounds <= most; rounds++) {
            if (ahead.wrongPointers() == 0) {
                return rounds;
            }
            ahead.round();
        }
        return -1;
    }
}
