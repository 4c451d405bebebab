import com.sun.management.ThreadMXBean;
import java.lang.management.ManagementFactory;

/**
 * All calls of one run live in one room. The object's own rows stand in it once; beside them the dearest
 * calls make nothing, and a refusal makes its exception alone.
 */
public final class RoomTest {
    private static final Checks checks = new Checks("RoomTest");
    private static final ThreadMXBean THREADS = (ThreadMXBean) ManagementFactory.getThreadMXBean();

    // The room holds some 600,000 objects, which are 16 bytes each at least, and 7.3 million fields and
    // elements; an object's rows are some 10,000 elements of at most 4 bytes.
    private static final long BYTES_OF_AN_OBJECT = 64_000;
    private static final long BYTES_OF_A_REFUSAL = 4_000;

    public static void main(String[] args) {
        ChordOverlay ring = fullOfValues();
        long ofAnObject = bytesOf(() -> new ChordOverlay());
        checks.same("a new object is small, " + ofAnObject, ofAnObject < BYTES_OF_AN_OBJECT, true);
        nothingIsMade("roundsToRight(30)", () -> ring.roundsToRight(30));
        nothingIsMade("goRounds(20)", () -> ring.goRounds(20));
        nothingIsMade("replicate(63)", () -> ring.replicate(63));
        nothingIsMade("fix(63)", () -> ring.fix(63));
        nothingIsMade("put(0, 63, 5)", () -> ring.put(0, 63, 5));
        nothingIsMade("hopAt(0, 0, 1)", () -> ring.hopAt(0, 0, 1));
        nothingIsMade("leave and join", () -> {
            ring.leave(9);
            ring.join(9, 0);
        });
        long refusals = bytesOf(() -> refuse(ring));
        checks.same("200 refusals are small, " + refusals, refusals < 200 * BYTES_OF_A_REFUSAL, true);
        checks.tell();
    }

    private static ChordOverlay fullOfValues() {
        ChordOverlay ring = Checks.joined(Checks.upward(64));
        for (int key = 0; key < 64; key++) {
            ring.put(key, key, key);
        }
        return ring;
    }

    private static void nothingIsMade(String what, Checks.Call call) {
        call.go();
        long bytes = bytesOf(() -> {
            for (int again = 0; again < 20; again++) {
                call.go();
            }
        });
        // What the machine itself makes while it measures counts too, but stays small.
        checks.same(what + ", 20 times, makes next to nothing: " + bytes, bytes < 2_000, true);
    }

    private static void refuse(ChordOverlay ring) {
        for (int again = 0; again < 200; again++) {
            Checks.thrownBy(() -> ring.put(0, 0, 1000));
        }
    }

    private static long bytesOf(Checks.Call call) {
        long before = THREADS.getCurrentThreadAllocatedBytes();
        call.go();
        return THREADS.getCurrentThreadAllocatedBytes() - before;
    }
}
