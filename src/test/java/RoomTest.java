import com.sun.management.ThreadMXBean;
import java.lang.management.ManagementFactory;

/**
 * The room of a run: 512 calls on one object stay far below 600,000 objects and 7.3 million
 * fields and elements. What the machine gives out is measured in bytes, at eight a field; an
 * object has sixteen at least, so that the bytes bound the objects too.
 */
public final class RoomTest {
    private static final long MOST_BYTES = 600_000L * 16L;
    private static final int CALLS = 512;

    private RoomTest() { }

    private interface Calls {
        void on(GristGraph x, int call);
    }

    public static void main(String[] args) {
        measure("new objects", (x, call) -> new GristGraph().nodes());
        measure("steps and wipes", (x, call) -> {
            if (call % 5 == 4) {
                x.wipe();
            } else {
                x.step(0, 'f', 0, 4, -1, 0);
            }
        });
        measure("questions in a transaction", (x, call) -> {
            if (call == 40) {
                x.begin();
                x.use(0);
            }
            fill(x, call, 40);
            x.matches('e', 0, -1);
        });
        measure("changes under watches and closures", (x, call) -> {
            fill(x, call, 30);
            if (call >= 30 && call < 34) {
                x.watch('e', 1);
                x.closure(0);
            }
            x.set(1, call % 7);
        });
        measure("walks", (x, call) -> {
            fill(x, call, 40);
            if (call >= 40 && call < 44) {
                x.open('e', 0);
            } else if (call >= 44) {
                x.goOn(call % 4, 200);
            }
        });
        measure("costs and flows", (x, call) -> {
            fill(x, call, 40);
            if (call > 3) {
                x.cost(0, 0);
                x.flow(0, 1);
            }
        });
        Check.end();
    }

    private static void fill(GristGraph x, int call, int edges) {
        if (call < 2) {
            x.node(0, call);
        } else if (call < 6) {
            x.step(0, 'f', 1, 4, -1, 0);
        } else if (call < edges) {
            x.edge(0, 0, call % 2, 1 + call);
        }
        if (call == 0) {
            x.node(0, 1);
        }
    }

    private static void measure(String what, Calls calls) {
        ThreadMXBean bean = (ThreadMXBean) ManagementFactory.getThreadMXBean();
        long thread = Thread.currentThread().getId();
        long before = bean.getThreadAllocatedBytes(thread);
        GristGraph x = new GristGraph();
        for (int call = 0; call < CALLS; call++) {
            try {
                calls.on(x, call);
            } catch (UnsupportedOperationException e) {
                // A refused question takes its room all the same.
                continue;
            }
        }
        long taken = bean.getThreadAllocatedBytes(thread) - before;
        System.out.println(what + " took " + taken + " bytes");
        Check.same(what + " have room", taken <= MOST_BYTES, true);
    }
}
