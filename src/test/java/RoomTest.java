import java.lang.management.ManagementFactory;

/** All calls of a run share one room: an object is small, and no call makes a new one. */
public final class RoomTest {
    private static final int OBJECT_BYTES_MOST = 180_000;
    /** What the measuring itself may take. */
    private static final int CALL_BYTES_MOST = 4_000;
    private static int sink;

    public static void main(String[] args) {
        com.sun.management.ThreadMXBean threads =
            (com.sun.management.ThreadMXBean) ManagementFactory.getThreadMXBean();
        long self = Thread.currentThread().getId();
        // The first of each loads classes, which is no room of the run.
        sink += new SealCasts().about(0);
        threads.getThreadAllocatedBytes(self);
        long start = threads.getThreadAllocatedBytes(self);
        SealCasts x = new SealCasts();
        long made = threads.getThreadAllocatedBytes(self) - start;
        for (int round = 0; round < 3; round++) {
            allCalls(x);
        }
        start = threads.getThreadAllocatedBytes(self);
        allCalls(x);
        long called = threads.getThreadAllocatedBytes(self) - start;
        System.out.println("RoomTest: an object takes " + made + " bytes, all calls of it " + called);
        if (made > OBJECT_BYTES_MOST || called > CALL_BYTES_MOST) {
            System.out.println("that is more room than they may take");
            System.exit(1);
        }
    }

    /** "marks 4;first 0;hand a wears 0 fills left;wax 99;" */
    private static void tell(SealCasts x) {
        x.feed(0x6d61726b, 0x7320343b, 0x66697273, 0x7420303b, 0x68616e64);
        x.feed(0x20612077, 0x65617273, 0x20302066, 0x696c6c73, 0x206c6566);
        x.feed(0x743b7761, 0x78203939, 0x3b202020, 0x20202020, 0x20202020);
        x.end(50);
        sink += x.chancery() + x.fault(0);
    }

    private static void allCalls(SealCasts x) {
        tell(x);
        for (int i = 0; i < 20; i++) {
            sink += x.cast(i, 0, i % 3) + x.print(i) + x.year() + (x.crack(i, 0) ? 1 : 0) + x.image(i % 3);
            sink += x.sample(i % 16, false) + x.claim(i % 16, 0, i) + x.saw(i % 4, i, true) + x.link(i % 8, 1, true);
            sink += (x.untell(i / 2) ? 1 : 0) + x.later(1);
        }
        sink += (x.undo() ? 1 : 0) + (x.redo() ? 1 : 0);
        for (int i = 0; i < 16; i++) {
            sink += x.seal(i, 0) + x.shown(i, 0) + x.prints(i, 0) + x.turned(i) + x.would(i, 0, 0, i);
            sink += x.whose(0, 0, i) + x.made(i, 2) + x.apart(0, i, true) + x.heats(0, 0, i) + x.luck(0, 0, 0, i);
            sink += x.likely(i, 0, 0, 0) + x.fades(i, 0, 0) + x.kin(0, i, 1) + x.thumb(i, 2) + x.share(i, 3, 1);
            sink += x.forge(0, 0, 0, i, 1) + x.nearest(i, 0) + x.common(0) + x.alike(i, false) + x.tell();
            sink += x.round(i, 0, 0, 0) + x.steady(0, i, 0) + x.against(0, 0, i) + x.wax(i);
            sink += x.tree(i, 0, i) + x.centre(0, i) + x.clans(i, 0, i) + x.origin(0, i) + x.falses(i);
            sink += x.span(1, 2, i) + x.backward(i, i) + x.lies(i) + x.about(i);
        }
        sink += x.back(1);
    }
}
