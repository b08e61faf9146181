import com.sun.management.ThreadMXBean;
import java.lang.management.ManagementFactory;

/** What an object and its 512 calls make must stay in the room that all calls of one run share. */
public final class RoomTest extends Checks {
    /**
     * In bytes: a field or element takes one at least and an object 16, so that what stays below this is less
     * than 7.3 million fields and elements, and less than 600,000 objects.
     */
    private static final long ROOM = 7_300_000L;
    private static final int CALLS = 512;

    private static ThreadMXBean threads;

    public static void main(String[] args) {
        if (ManagementFactory.getThreadMXBean() instanceof ThreadMXBean counting) {
            threads = counting;
            measureAll();
            end("all calls stay in the room");
        } else {
            System.out.println("this machine does not count what is made");
        }
    }

    private static void measureAll() {
        measure("errors", Radixtape::errors);
        measure("write and wipe", x -> {
            x.write(0, 2);
            x.wipe();
        });
        measure("change", x -> x.change(36, 36));
        measure("read", x -> x.read(1, 36));
        measure("hear", x -> x.hear(0, 2, 2));
        measure("add", x -> x.add(2, 0));
        measure("multiply", x -> x.multiply(0, -1, 0));
        measure("negate and undo", x -> {
            x.negate(0);
            x.undo();
        });
        measure("digitAt", x -> x.digitAt(0, 2, 799));
        measure("isMirrored", x -> x.isMirrored(0, 2));
        measure("meanDigit", x -> x.meanDigit(0, 2));
        measure("a refused call", x -> thrownBy(x, y -> y.read(4, 1)));
    }

    private static void measure(String name, Call call) {
        long before = threads.getThreadAllocatedBytes(Thread.currentThread().getId());
        Radixtape x = tape(GREATEST.toString(36));
        x.read(0, 36);
        for (int i = 0; i < CALLS; i++) {
            call.on(x);
            if (x.length() > 1000) {
                x.wipe();
            }
        }
        long made = threads.getThreadAllocatedBytes(Thread.currentThread().getId()) - before;
        due(name + " stays in the room, as it makes " + made + " bytes, which", made <= ROOM, true);
    }
}
