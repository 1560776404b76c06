import java.lang.management.ManagementFactory;

/** All calls of a run live in one room: calls that do not throw make no objects. */
public final class RoomTest {
    public static void main(String[] args) {
        RotationCiphers[] objects = new RotationCiphers[100];
        for (int i = 0; i < objects.length; i++) {
            objects[i] = new RotationCiphers();
        }
        run(new RotationCiphers(), 1);
        com.sun.management.ThreadMXBean bean = (com.sun.management.ThreadMXBean) ManagementFactory.getThreadMXBean();
        long self = Thread.currentThread().getId();
        bean.getThreadAllocatedBytes(self);
        long before = bean.getThreadAllocatedBytes(self);
        for (int i = 0; i < objects.length; i++) {
            run(objects[i], i);
        }
        long made = bean.getThreadAllocatedBytes(self) - before;
        Expect.isTrue("calls make next to nothing, and made bytes: " + made, made < 4096);
        Expect.finish();
    }

    private static void run(RotationCiphers x, int i) {
        for (int kind = 0; kind < 3; kind++) {
            x.feed(8, i);
            x.feed(8, -i);
            x.key(kind, kind == 0 ? 8 : 32);
            x.seal(i, -i, 10);
            x.open(i, -i, 10);
            for (int k = 0; k < 33; k++) {
                x.feed(8, k);
            }
            for (int mode = 0; mode < 4; mode++) {
                x.mode(mode, true);
                x.mode(mode, false);
            }
            x.start(x.check(), x.other());
            x.tape(x.kind());
            x.wipe();
        }
    }
}
