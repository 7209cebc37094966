import com.sun.management.ThreadMXBean;
import java.lang.management.ManagementFactory;

/**
 * What 512 calls make, in bytes. All calls of a run live in one room of some 7.3 million fields and
 * elements; a tenth of it, at four bytes each, is the most that this test allows for any one call.
 */
public final class RoomTest {
    private static final Due DUE = new Due("room");
    private static final long MOST_BYTES = 7_300_000L / 10 * 4;
    private static final ThreadMXBean THREADS = (ThreadMXBean) ManagementFactory.getThreadMXBean();
    private static final String[] DEAREST = {"new", "keep", "back", "compare", "near", "join", "patch", "apply", "log",
        "draw", "vote", "record", "move", "sum", "lag"};

    private static LoggerTwins full() {
        LoggerTwins x = new LoggerTwins();
        for (int r = 0; r < 8; r++) x.draw(r, r % 2 == 0 ? 7 : 4, 20, r);
        x.rate(1, 9);
        x.rate(2, 1);
        x.compare(0, 1);
        x.patch(0);
        x.keep(0);
        return x;
    }

    private static void call(LoggerTwins x, String name) {
        switch (name) {
            case "new": new LoggerTwins(); break;
            case "keep": x.keep(0); break;
            case "back": x.back(0); break;
            case "compare": x.compare(0, 1); break;
            case "near": x.near(0); break;
            case "join": x.join(7, 2); break;
            case "patch": x.patch(0); break;
            case "apply": x.apply(0, 0); x.turn(0); break;
            case "log": x.log(7, 1, 7, 2); break;
            case "draw": x.draw(7, 9, 20, 3); break;
            case "vote": x.vote(7, 1, 3, 5); break;
            case "record": x.record(7, 9, 20); break;
            case "move": x.move(0, 0, 1, 0, 20); break;
            case "sum": x.sum(0, 7); break;
            default: x.lag(0, 1);
        }
    }

    private static long bytesOf(String name) {
        LoggerTwins x = full();
        long thread = Thread.currentThread().getId();
        long before = THREADS.getThreadAllocatedBytes(thread);
        for (int n = 0; n < 512; n++) call(x, name);
        return THREADS.getThreadAllocatedBytes(thread) - before;
    }

    public static void main(String[] args) {
        for (String name : DEAREST) {
            DUE.begin(name);
            bytesOf(name);
            long bytes = bytesOf(name);
            DUE.holds(bytes + " bytes are at most " + MOST_BYTES, bytes <= MOST_BYTES);
        }
        DUE.end();
    }
}
