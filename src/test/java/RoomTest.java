import com.sun.management.ThreadMXBean;
import java.lang.management.ManagementFactory;

/** All calls of one run live in one room: the dearest ones, 500 times, must leave most of it free. */
final class RoomTest {
    private static final ThreadMXBean THREADS = (ThreadMXBean) ManagementFactory.getThreadMXBean();
    private static final int TIMES = 500;
    /** In bytes; the room has some 600,000 objects and 7.3 million fields and elements. */
    private static final long MOST = 2_500_000;

    public static void main(String[] args) {
        Shrinkforge warm = big();
        warm.digest();
        costs("new object and typing", 1, () -> big());
        Shrinkforge x = big();
        costs("digest", TIMES, x::digest);
        costs("isSound", TIMES, x::isSound);
        costs("shrink", TIMES, x::shrink);
        costs("again", TIMES, x::again);
        costs("map", TIMES, x::map);
        costs("line", TIMES, () -> x.line(0, 5));
        costs("run", TIMES, () -> x.run(0, 1));
        costs("runShrunk", TIMES, () -> x.runShrunk(0, 1));
        costs("areAlike", TIMES, () -> x.areAlike(0, 1));
        costs("sample and shrink", TIMES, () -> x.sample(3) + x.shrink());
        Check.finish("RoomTest");
    }

    /** 8 classes, 16 fields, 24 methods of which many are ENTRIES that print and call until something goes wrong. */
    private static Shrinkforge big() {
        Shrinkforge x = new Shrinkforge();
        for (int c = 0; c < 8; c++) {
            x.cls(c - 1, false);
        }
        for (int f = 0; f < 16; f++) {
            x.field(f / 2, f % 2, false);
        }
        for (int m = 0; m < 24; m++) {
            x.method(m / 3, m % 3, 1, m % 3 < 2, 4);
            Ops.type(x, m, "LOAD 0; PRINT; PUSH -1000000000; PRINT; PUSH -1000000001; PRINT; NEW 7; STORE 1; LOAD 1;"
                    + " LOAD 0; PUT " + m / 3 + " 0; LOAD 1; GET 7 1; POP; LOAD 0; PUSH 1; ADD; STORE 0; LOAD 0;"
                    + " SCALL 7 " + (m % 2 * 4 + 1) + "; POP; LOAD 0; RETURN");
            if (m % 3 < 2) {
                x.entry(m, true);
            }
        }
        x.shrink();
        x.run(0, 1);
        return x;
    }

    private static void costs(String what, int times, Check.Call call) {
        long id = Thread.currentThread().getId();
        call.answer();
        long before = THREADS.getThreadAllocatedBytes(id);
        for (int time = 0; time < times; time++) {
            call.answer();
        }
        long bytes = THREADS.getThreadAllocatedBytes(id) - before;
        System.out.println(what + ": " + bytes + " bytes in " + times);
        Check.isTrue(what + " costs " + bytes, bytes < MOST);
    }
}
