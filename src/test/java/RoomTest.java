import com.sun.management.ThreadMXBean;
import java.lang.management.ManagementFactory;

/** What an object's calls make: little enough that all calls of a run have room beside one another. */
public final class RoomTest {
    private static final ThreadMXBean THREADS = (ThreadMXBean) ManagementFactory.getThreadMXBean();
    private static final int CALLS = 26;
    // each time up to two calls, beside those that fill the object
    private static final int TIMES = 220;

    public static void main(String[] args) {
        for (int call = 0; call < CALLS; call++) {
            NestsByKnots nests = filled();
            long before = THREADS.getThreadAllocatedBytes(Thread.currentThread().getId());
            for (int i = 0; i < TIMES; i++) {
                one(nests, call, i);
            }
            long made = THREADS.getThreadAllocatedBytes(Thread.currentThread().getId()) - before;
            // some 16 small objects a call, which strips() may lay
            Due.is("bytes made by " + TIMES + " calls of " + call + " (" + made + ") are too many", made > TIMES * 16 * 16 ? 1 : 0, 0);
        }
        Due.end("RoomTest");
    }

    private static NestsByKnots filled() {
        NestsByKnots nests = Due.ruled("rub 1+cross*2;next 3*(x+y)-cross;take 1;");
        for (int i = 0; i < 15; i++) {
            nests.lay(i % 6, 5 + 500 * (i % 5), i % 10);
        }
        nests.sheet(0, 1, 40);
        nests.sheet(1, 1, 40);
        for (int i = 0; i < 12; i++) {
            nests.cell(0, 3 * i + 1, 1);
        }
        return nests;
    }

    private static void one(NestsByKnots n, int call, int i) {
        switch (call) {
            case 0: n.lay(i % 6, 1, 0); n.out(15); break;
            case 1: n.hours(1); break;
            case 2: n.told(i % 16, i % 10); break;
            case 3: n.feed(8, i); break;
            case 4: n.feed(8, 0x30203b3020627572L); n.text(); break;
            case 5: n.force(i % 2); break;
            case 6: n.pull(i % 25, 999, 1); break;
            case 7: n.pulled(i % 25, 999); break;
            case 8: n.falls(); break;
            case 9: n.least(i % 25, 0); break;
            case 10: n.good(5); break;
            case 11: n.next(1); break;
            case 12: n.pulled(0, 999); n.build(1, 8); break;
            case 13: n.best(4, 9, 1, 0); break;
            case 14: n.when(); break;
            case 15: n.spare(); break;
            case 16: n.brown(9); break;
            case 17: n.holes(); break;
            case 18: n.closes(1, 0); break;
            case 19: n.slipped(); break;
            case 20: n.image(); break;
            case 21: n.image(); n.back(); break;
            case 22: n.sheet(2, 2, 40); break;
            case 23: n.copy(0, 0, 1, 0, 40); break;
            case 24: n.pulled(0, 999); n.strips(0, 1, 0, 12); break;
            default: n.taken(i % 16, 0); break;
        }
    }
}
