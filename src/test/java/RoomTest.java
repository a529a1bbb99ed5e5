import com.sun.management.ThreadMXBean;
import java.lang.management.ManagementFactory;

/**
 * All calls of a run live in one room: some 600,000 objects and 7.3 million fields and elements. None of these
 * takes less than a byte, and no object less than 16, so bytes are counted.
 */
final class RoomTest extends Edges {
    private static final int CALLS = 512;
    private static final long ROOM = 7_300_000;
    private static final ThreadMXBean THREADS = (ThreadMXBean) ManagementFactory.getThreadMXBean();

    public static void main(String[] args) {
        if (!THREADS.isThreadAllocatedMemorySupported()) {
            System.out.println("RoomTest: this machine does not count bytes");
            return;
        }
        run("sign and rule, no rule", x -> {
            x.sign('t' << 24 | 'r' << 16 | 'e' << 8 | 'e');
            return x.rule();
        });
        run("sign, rule, drop", x -> {
            x.drop(11);
            x.sign('t' << 24 | 'r' << 16 | 'e' << 8 | 'e');
            x.sign(' ' << 24 | '2' << 16 | ' ' << 8 | '2');
            return x.rule();
        });
        run("an act that is refused", x -> x.put(0, 0, 1, 1, 1) + x.set(0, 0, 0, 99));
        run("an act by itself", x -> x.rekey(1, 0, 1) + x.rekey(1, 1, 0));
        run("cut and put", x -> x.cut(1, 0) + x.put(1, 0, 0, 0, 0));
        run("a transaction", x -> x.begin() + x.mark() + x.cut(1, 0) + x.back(0) + x.abort());
        run("a commit that goes back", x -> x.begin() + x.set(0, 0, 1, 99) + x.commit());
        run("later", x -> x.later(1, false) + x.later(1, true));
        run("what there is", x -> x.all(0) + x.all(1) + x.first(0) + x.group(NONE, 0) + x.asked(NONE, 0) + x.question(0, 0, 1));
        run("on paper", x -> x.wouldSet(0, 0, 0, 2) + x.wouldCut(0, 0, 2) + x.leans(0, 0, 1) + x.least(0, 0, 0) + x.depth(8, 0));
        Due.finish("RoomTest");
    }

    private static LateRules full() {
        LateRules x = Due.with("range 0 0 0 50", "unique 0 1 late", "refers 1 0 0 cascade", "refers 2 0 1 clear late", "sum 0 0 1 -99 99",
            "count 1 0 0 0 30", "unique 0 2", "range 1 1 0 9 late", "tree 0 2", "tree 1 2", "tree 2 2", "tree 2 2");
        for (int key = 0; key < 30; key++) {
            x.put(0, key, key, key, key - 1);
            x.put(2, key, NULL, 0, NULL);
        }
        x.put(1, 0, 0, 0, NULL);
        return x;
    }

    /** The first time is for what the machine itself makes once. */
    private static void run(String name, Call call) {
        bytesOf(call);
        long bytes = bytesOf(call);
        is(name + " takes " + bytes + " bytes, more than there are", bytes > ROOM, false);
    }

    private static long bytesOf(Call call) {
        long before = THREADS.getThreadAllocatedBytes(Thread.currentThread().getId());
        LateRules x = full();
        for (int i = 0; i < CALLS; i++) {
            call.on(x);
        }
        return THREADS.getThreadAllocatedBytes(Thread.currentThread().getId()) - before;
    }
}
