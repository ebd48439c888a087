import com.sun.management.ThreadMXBean;
import java.lang.management.ManagementFactory;

/** What a run of 512 calls makes: far less than the one room in which all calls live. */
final class RoomTest {
    private static final long MOST_BYTES = 400000;

    public static void main(String[] args) {
        Due due = new Due("RoomTest");
        ThreadMXBean threads = (ThreadMXBean) ManagementFactory.getThreadMXBean();
        run(true);
        long before = threads.getCurrentThreadAllocatedBytes();
        run(true);
        long books = threads.getCurrentThreadAllocatedBytes() - before;
        due.is("512 calls of books make " + books + " bytes", books < MOST_BYTES, true);
        run(false);
        before = threads.getCurrentThreadAllocatedBytes();
        run(false);
        long drops = threads.getCurrentThreadAllocatedBytes() - before;
        due.is("512 calls of drops make " + drops + " bytes", drops < MOST_BYTES, true);
        due.close();
    }

    private static void run(boolean books) {
        FoamArms x = new FoamArms();
        if (!books) {
            Due.book(x, "foam f 0:0 95:60000 keeps 99 price 9;thing c weighs 100 size 1 1 1 mark 9;"
                    + "pad c side 0 f thick 10 area 1;box b room 99 99 99 price 1 bears 1;");
        }
        for (int i = 0; i < 120; i++) {
            if (books) {
                // "thing abc weighs 1 ?" is a FAULT, the latest of which leaves its pieces.
                x.feed(0x7468696e, 0x67206162, 0x63207765, 0x69676873, 0x2031203f);
                x.book();
                x.book();
                x.book();
            } else {
                x.feed(0x01c801c8, 0, 0, 0, 0);
                x.end(4);
                x.spans(0, 0, i, 0);
                x.highest(0, 0, 0);
            }
        }
    }
}
