import java.lang.management.ManagementFactory;

/** All calls of a run live in one room: calls that do not throw make no objects. */
public final class RoomTest {
    public static void main(String[] args) {
        run(new RotationCiphers());
        RotationCiphers x = new RotationCiphers();
        com.sun.management.ThreadMXBean bean = (com.sun.management.ThreadMXBean) ManagementFactory.getThreadMXBean();
        long self = Thread.currentThread().getId();
        bean.getThreadAllocatedBytes(self);
        long before = bean.getThreadAllocatedBytes(self);
        run(x);
        long made = bean.getThreadAllocatedBytes(self) - before;
        Expect.isTrue("a run of calls makes next to nothing, and made bytes: " + made, made < 4096);
        Expect.finish();
    }

    private static void run(RotationCiphers x) {
        for (int i = 0; i < 100; i++) {
            int kind = i % 3;
            x.feed(8, i);
            x.feed(8, -i);
            x.key(kind, kind == 0 ? 8 : 32);
            x.seal(i, -i, 10);
            x.open(i, -i, 10);
            for (int k = 0; k < 32; k++) {
                x.feed(8, k);
            }
            for (int mode = 0; mode < 4; mode++) {
                x.mode(mode, true);
                x.mode(mode, false);
            }
            x.start(x.check(), x.other());
            x.tape(x.kind());
            x.wipe();
        }
    }
}
