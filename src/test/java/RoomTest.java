import com.sun.management.ThreadMXBean;
import java.lang.management.ManagementFactory;

/**
 * The room of LANGUAGE.md, some 7.3 million fields and elements for all calls of one run: a bench that is full, and
 * the calls that reckon most. What no call has to make anew is made with the bench.
 */
public final class RoomTest {
    /** A field or an element is a byte at least, and this is less than a tenth of the room. */
    private static final long MOST_BYTES = 500_000;
    private static final int CALLS = 512;

    private RoomTest() {
    }

    public static void main(String[] arguments) {
        // The first rounds load classes, which makes objects that are not the bench's.
        for (int i = 0; i < 3; i++) {
            fill(new Peepholery());
        }
        ThreadMXBean threads = (ThreadMXBean) ManagementFactory.getThreadMXBean();
        long before = threads.getCurrentThreadAllocatedBytes();
        int calls = fill(new Peepholery());
        long made = threads.getCurrentThreadAllocatedBytes() - before;
        Check.due(1, "calls", CALLS, () -> calls);
        Check.due(1, made + " bytes are few", true, () -> made < MOST_BYTES);
        Check.end("RoomTest");
    }

    /** Makes all that can be made, and goes on with calls that make rows or texts in a careless class. */
    private static int fill(Peepholery p) {
        int calls = 0;
        for (; calls < 4; calls++) {
            p.machine(3, calls % 3);
        }
        for (int i = 0; i < 23; i++) {
            p.program(0);
            calls++;
        }
        for (int i = 0; i < 2; i++) {
            p.add(0, 'x', 0, true, 3);
            calls++;
        }
        for (int i = 0; i < 12; i++) {
            p.learn(0, 1, 1);
            calls++;
        }
        for (int i = 0; i < 10; i++) {
            p.target(0, 3);
            calls++;
        }
        p.leaf('A');
        calls++;
        for (int i = 0; i < 59; i++) {
            p.term('~', i, 0);
            calls++;
        }
        p.shortest(0, 2);
        calls++;
        p.join(0, 2);
        calls++;
        while (calls < CALLS) {
            reckon(p, calls);
            calls++;
        }
        return calls;
    }

    private static void reckon(Peepholery p, int call) {
        switch (call % 16) {
            case 0: p.walk(0, 4, 200, call); break;
            case 1: p.front(0, 31); break;
            case 2: p.windows(0, 1); break;
            case 3: p.rewrite(2, 31); break;
            case 4: p.isSound(); break;
            case 5: p.shared(call % 60); break;
            case 6: p.law('c'); break;
            case 7: p.best(59); break;
            case 8: p.value(59, 5, 1, 2, 3); break;
            case 9: p.constantFor(0, 'a'); break;
            case 10: p.fits(1, 0); break;
            case 11: p.cycles(0); break;
            case 12: p.prove(call % 12); break;
            case 13: p.clean(2, 31); break;
            case 14: p.magic(0, 7); break;
            default: p.differsAt(0, 1, 31); break;
        }
    }
}
