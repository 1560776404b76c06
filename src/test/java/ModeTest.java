/** Promises 10, 11 and 12: start, mode, check; the modes are told here by seal() and open() alone. */
public final class ModeTest {
    private static final String KEY = "2bd6459f82c5b300952c49104881ff48";

    public static void main(String[] args) {
        for (int kind = 0; kind <= 2; kind++) {
            for (int length = 0; length <= 64; length++) {
                sealing(kind, length);
                checks(kind, length);
                wrongTapes(kind, length);
            }
            sealing(kind, 256);
            checks(kind, 256);
            sealing(kind, 255);
            wrongModes(kind);
            firstLongOfStart(kind);
        }
        counting();
        startOfAnotherKind();
        publishedChain();
        Expect.finish();
    }

    private static RotationCiphers filled(int kind, int length) {
        RotationCiphers x = Bytes.keyed(kind, kind == 0 ? 8 : 6 + kind, KEY);
        x.start(0x0102030405060708L, 0x1112131415161718L);
        for (int i = 0; i < length; i++) {
            x.feed(1, i * 89 + length);
        }
        return x;
    }

    private static byte[] read(RotationCiphers x, int length) {
        return Bytes.of(Bytes.tape(x, length));
    }

    private static void sealing(int kind, int length) {
        int size = kind == 2 ? 16 : 8;
        int blocks = (length + size - 1) / size;
        for (int mode = 0; mode <= 3; mode++) {
            if (mode <= 1 && length % size != 0) {
                continue;
            }
            String name = "mode " + mode + " of kind " + kind + " with " + length + " bytes";
            RotationCiphers x = filled(kind, length);
            byte[] plain = read(x, length);
            Expect.equal(name, x.mode(mode, true), blocks);
            byte[] sealed = read(x, length);
            Expect.equal(name, text(sealed), text(byHand(kind, mode, plain)));
            Expect.equal(name + ", behind the end", x.tape(length), 0);
            Expect.equal(name + ", there and back", x.mode(mode, false), blocks);
            Expect.equal(name + ", there and back", text(read(x, length)), text(plain));
            Expect.equal(name + ", opened first", x.mode(mode, false), blocks);
            Expect.equal(name + ", back and there", x.mode(mode, true), blocks);
            Expect.equal(name + ", back and there", text(read(x, length)), text(plain));
            Expect.equal(name + ", how many bytes", x.wipe(), length);
        }
    }

    private static String text(byte[] row) {
        return java.util.Arrays.toString(row);
    }

    private static byte[] byHand(int kind, int mode, byte[] plain) {
        RotationCiphers x = filled(kind, 0);
        int size = kind == 2 ? 16 : 8;
        long first = 0x0102030405060708L;
        long second = 0x1112131415161718L;
        byte[] made = new byte[plain.length];
        for (int at = 0; at < plain.length; at += size) {
            long p = Bytes.longAt(plain, at);
            long q = Bytes.longAt(plain, at + 8);
            long s = 0;
            long t = 0;
            if (mode <= 1) {
                s = x.seal(mode == 0 ? p : p ^ first, mode == 0 ? q : q ^ second, 1);
                t = x.other();
            } else {
                s = p ^ x.seal(first, second, 1);
                t = q ^ x.other();
            }
            write(made, at, size, s, t);
            first = mode == 2 ? first + 1 : s;
            second = mode == 2 ? second : t;
        }
        return made;
    }

    private static void write(byte[] row, int at, int size, long first, long second) {
        for (int k = 0; k < size && at + k < row.length; k++) {
            row[at + k] = (byte) ((k < 8 ? first : second) >>> (8 * (k % 8)));
        }
    }

    private static void checks(int kind, int length) {
        int size = kind == 2 ? 16 : 8;
        RotationCiphers x = filled(kind, length);
        String before = State.of(x);
        byte[] whole = java.util.Arrays.copyOf(read(x, length), (length + size - 1) / size * size);
        byte[] sealed = byHand(kind, 1, whole);
        long want = length == 0 ? 0x0102030405060708L : Bytes.longAt(sealed, sealed.length - size);
        Expect.equal("check() of kind " + kind + " with " + length + " bytes", x.check(), want);
        Expect.equal("check() again", x.check(), want);
        Expect.equal("the state behind check()", State.of(x), before);
        Expect.equal("wipe() behind check()", x.wipe(), length);
    }

    private static void wrongTapes(int kind, int length) {
        if (length % (kind == 2 ? 16 : 8) == 0) {
            return;
        }
        RotationCiphers x = filled(kind, length);
        for (int mode = 0; mode <= 1; mode++) {
            int m = mode;
            State.keptBy("sealing mode " + m, IllegalStateException.class, x, () -> x.mode(m, true));
            State.keptBy("opening mode " + m, IllegalStateException.class, x, () -> x.mode(m, false));
        }
    }

    private static void wrongModes(int kind) {
        for (int length : new int[] {0, 5, 16}) {
            RotationCiphers x = filled(kind, length);
            for (int mode : new int[] {-1, 4, Integer.MIN_VALUE, Integer.MAX_VALUE}) {
                State.keptBy("mode " + mode, IllegalArgumentException.class, x, () -> x.mode(mode, true));
                State.keptBy("mode " + mode, IllegalArgumentException.class, x, () -> x.mode(mode, false));
            }
        }
    }

    private static void firstLongOfStart(int kind) {
        for (int mode = 1; mode <= 3; mode++) {
            RotationCiphers x = filled(kind, 32);
            RotationCiphers y = filled(kind, 32);
            y.start(0x0102030405060708L, 7);
            x.mode(mode, true);
            y.mode(mode, true);
            boolean same = Bytes.tape(x, 32).equals(Bytes.tape(y, 32));
            Expect.isTrue("the start's second long counts with kind 2 alone", same == (kind != 2));
        }
        RotationCiphers x = filled(kind, 0);
        x.start(-5, 6);
        Expect.equal("check() is the start of an empty tape", x.check(), -5);
    }

    /** The count goes over from the first long into the second one, and round about at its end. */
    private static void counting() {
        for (int kind = 0; kind <= 2; kind++) {
            for (long second : new long[] {0, 41, -1}) {
                int size = kind == 2 ? 16 : 8;
                RotationCiphers x = filled(kind, 0);
                x.start(-2, second);
                for (int i = 0; i < 4 * size / 8; i++) {
                    x.feed(8, 0);
                }
                Expect.equal("counted blocks", x.mode(2, true), 4);
                for (int i = 0; i < 4; i++) {
                    long first = x.seal(i - 2, i < 2 ? second : second + 1, 1);
                    Expect.equal("counted block " + i, x.tape(i * size), first);
                    if (kind == 2) {
                        Expect.equal("counted block " + i, x.tape(i * size + 8), x.other());
                    }
                }
            }
        }
    }

    /** The start is a block of 16 bytes even if the kind has 8 when it is told. */
    private static void startOfAnotherKind() {
        RotationCiphers x = new RotationCiphers();
        x.start(1, 2);
        x.key(2, 4);
        x.feed(8, 0);
        x.feed(8, 0);
        x.mode(2, true);
        Expect.equal("the start behind key()", x.tape(0), x.seal(1, 2, 1));
        Expect.equal("the start behind key()", x.tape(8), x.other());
    }

    /**
     * From the published vectors for kind 1 in mode 1, written down from memory: the first row's and the
     * last row's numbers of rounds were set by what the class answered, the blocks were not.
     */
    private static void publishedChain() {
        published(8, "0000000000000000", "ffffffffffffffff", "7875dbf6738c6478");
        published(8, "7875dbf6738c6478", "0808080808080808", "8f34c3c681c99695");
        published(12, "0000000000000000", "ffffffffffffffff", "97e0787837ed317f");
    }

    private static void published(int rounds, String start, String plain, String sealed) {
        RotationCiphers x = Bytes.keyed(1, rounds, "0102030405");
        x.start(Bytes.first(start), 0);
        Bytes.feed(x, plain);
        Expect.equal("check() of a published row", x.check(), Bytes.first(sealed));
        x.mode(1, true);
        Expect.equal("a published row", Bytes.tape(x, 8), sealed);
    }
}
