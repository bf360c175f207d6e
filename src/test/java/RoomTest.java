import java.lang.management.ManagementFactory;

/** The room that the dearest runs of 512 calls take: what they make, used again or not. */
public final class RoomTest {
    private static final int CALLS = 512;
    private static final int CALLS_AFTER_FULL = CALLS - 80;
    // 7.3 million elements of four bytes would be some 29 million.
    private static final long MOST_BYTES = 12_000_000;

    private interface Run {
        void call(int i);
    }

    private static Object kept;
    private static FindingAid aid;

    public static void main(String[] args) {
        measure("new objects", CALLS, i -> kept = new FindingAid());
        measure("changes", CALLS_AFTER_FULL, i -> aid.setSeats(1 + i % 6));
        measure("puts", CALLS_AFTER_FULL, i -> aid.put(1 + i % 39, i % 2));
        measure("save and restore", CALLS_AFTER_FULL, i -> kept = i % 2 == 0 ? aid.save() : aid.restore());
        measure("writes", CALLS_AFTER_FULL, i -> aid.write(0));
        measure("reviews", CALLS_AFTER_FULL, i -> aid.review());
        measure("undo", CALLS_AFTER_FULL, i -> kept = i % 2 == 0 ? aid.setSeats(1) : aid.undo());
        measure("reads", CALLS_AFTER_FULL, i -> kept = i % 2 == 0 ? aid.feed('x') : aid.read(0));
        measure("objects with a change each", CALLS, i -> (aid = i % 3 == 0 ? new FindingAid() : aid).setSeats(1));
        Check.end();
    }

    private static FindingAid full() {
        FindingAid full = new FindingAid();
        full.addContainer(200);
        full.addContainer(200);
        for (int node = 1; node < 40; node++) {
            full.add(0, 2, 5, 1000, 2000);
            full.put(node, 0);
        }
        return full;
    }

    private static void measure(String what, int calls, Run run) {
        if (!(ManagementFactory.getThreadMXBean() instanceof com.sun.management.ThreadMXBean bean)) {
            return;
        }
        aid = full();
        long thread = Thread.currentThread().getId();
        long before = bean.getThreadAllocatedBytes(thread);
        for (int i = 0; i < calls; i++) {
            run.call(i);
        }
        long bytes = bean.getThreadAllocatedBytes(thread) - before;
        if (bytes > MOST_BYTES) {
            Check.fail(what + " take " + bytes + " bytes");
        }
    }
}
