import java.util.Arrays;

/** Promises 10, 11 and 12, sentence by sentence: start, mode, check; the modes told here by seal() alone. */
public final class ModeTest {
    private static final String KEY = "2bd6459f82c5b300952c49104881ff48";
    private static final long FIRST = 0x0102030405060708L;
    private static final long SECOND = 0x1112131415161718L;
    private static final Class<IllegalArgumentException> ARGUMENT = IllegalArgumentException.class;
    private static final Class<IllegalStateException> STATE = IllegalStateException.class;

    public static void main(String[] args) {
        for (int kind = 0; kind <= 2; kind++) {
            for (int length = 0; length <= 256; length++) {
                thereAndBack(kind, length);
                checks(kind, length);
            }
            emptyTapes(kind);
            shorterBlocks(kind);
            refusesModes(kind);
            refusesParts(kind);
            counts(kind);
            leavesTheStart(kind);
            startsWithFirstLong(kind);
        }
        startOfAnotherKind();
        Expect.finish();
    }

    private static int size(int kind) {
        return kind == 2 ? 16 : 8;
    }

    private static int blocks(int kind, int length) {
        return length / size(kind) + (length % size(kind) == 0 ? 0 : 1);
    }

    private static Subject keyed(int kind) {
        return Bytes.keyed(kind, kind == 0 ? 8 : 6 + kind, KEY);
    }

    private static Subject filled(int kind, int length) {
        Subject x = keyed(kind);
        x.start(FIRST, SECOND);
        return Bytes.fed(x, Bytes.some(length));
    }

    private static void thereAndBack(int kind, int length) {
        String plain = Bytes.text(Bytes.some(length));
        for (int mode = 0; mode <= 3; mode++) {
            if (mode <= 1 && length % size(kind) != 0) {
                continue;
            }
            String name = "mode " + mode + " of kind " + kind + " with " + length + " bytes";
            Subject x = filled(kind, length);
            Expect.sentence("Promise 11", "Answers how many blocks it has, a shorter one, too.");
            Expect.equal(name, x.mode(mode, true), blocks(kind, length));
            Expect.sentence("Promise 11", "The tape becomes what a mode makes of it, sealed or opened.");
            Expect.equal(name, Bytes.tape(x, length), Bytes.text(byHand(kind, mode, Bytes.some(length))));
            Expect.equal(name + ", behind the end", x.tape(length), 0);
            Expect.equal(name + ", there and back", x.mode(mode, false), blocks(kind, length));
            Expect.equal(name + ", there and back", Bytes.tape(x, length), plain);
            Expect.equal(name + ", how many bytes", x.wipe(), length);
            Subject y = filled(kind, length);
            Expect.equal(name + ", opened first", y.mode(mode, false), blocks(kind, length));
            Expect.equal(name + ", back and there", y.mode(mode, true), blocks(kind, length));
            Expect.equal(name + ", back and there", Bytes.tape(y, length), plain);
        }
        Expect.sentence("Terms", "there and back are the same");
        Subject sealed = filled(kind, length);
        sealed.mode(2, true);
        Subject opened = filled(kind, length);
        opened.mode(2, false);
        Expect.equal("mode 2 with " + length + " bytes", Bytes.tape(opened, length), Bytes.tape(sealed, length));
    }

    private static byte[] byHand(int kind, int mode, byte[] plain) {
        Subject x = keyed(kind);
        long first = FIRST;
        long second = SECOND;
        byte[] made = new byte[plain.length];
        for (int at = 0; at < plain.length; at += size(kind)) {
            long p = Bytes.longAt(plain, at);
            long q = Bytes.longAt(plain, at + 8);
            long s = 0;
            long t = 0;
            if (mode <= 1) {
                s = x.seal(mode == 0 ? p : p ^ first, mode == 0 ? q : q ^ second, 1);
                t = x.other();
            } else {
                s = p ^ x.seal(first, second, 1);
                t = q ^ x.other();
            }
            write(made, at, size(kind), s, t);
            first = mode == 2 ? first + 1 : s;
            second = mode == 2 ? second : t;
        }
        return made;
    }

    private static void write(byte[] row, int at, int size, long first, long second) {
        for (int k = 0; k < size && at + k < row.length; k++) {
            row[at + k] = (byte) ((k < 8 ? first : second) >>> (8 * (k % 8)));
        }
    }

    private static void checks(int kind, int length) {
        Expect.sentence("Promise 12", "sealing the tape with bytes 0 behind it up to whole blocks");
        byte[] whole = Arrays.copyOf(Bytes.some(length), blocks(kind, length) * size(kind));
        byte[] sealed = byHand(kind, 1, whole);
        long want = length == 0 ? FIRST : Bytes.longAt(sealed, sealed.length - size(kind));
        Subject x = filled(kind, length);
        Expect.equal("check() of kind " + kind + " with " + length + " bytes", x.check(), want);
        Expect.equal("check() again", x.check(), want);
        Expect.sentence("Promise 12", "The tape stays.");
        Expect.equal("the state behind check()", State.of(x), State.of(filled(kind, length)));
        if (length > 0 && length % size(kind) == 0) {
            Expect.sentence("Promise 12", "The first long of the last block that mode 1 would make");
            Subject y = filled(kind, length);
            y.mode(1, true);
            Expect.equal("the last block of mode 1", y.tape(length - size(kind)), want);
        }
    }

    private static void emptyTapes(int kind) {
        for (int mode = 0; mode <= 3; mode++) {
            int m = mode;
            for (boolean seals : new boolean[] {true, false}) {
                Expect.sentence("Promise 11", "with 0 and 1 the tape has no whole blocks (an empty one has: 0)");
                Subject x = filled(kind, 0);
                Expect.equal("mode " + m + " of an empty tape", x.mode(m, seals), 0);
                Expect.equal("the state behind it", State.of(x), State.of(filled(kind, 0)));
            }
        }
        Expect.sentence("Promise 12", "the start, when it is empty");
        for (long first : new long[] {0, 1, -5, Long.MIN_VALUE, Long.MAX_VALUE}) {
            Subject x = keyed(kind);
            x.start(first, 6);
            Expect.equal("check() of an empty tape", x.check(), first);
            x.feed(8, 1);
            x.wipe();
            Expect.equal("check() of a wiped tape", x.check(), first);
        }
    }

    /** A shorter last block gets the first bytes of what a whole one would, and grows by none. */
    private static void shorterBlocks(int kind) {
        int size = size(kind);
        for (int mode = 2; mode <= 3; mode++) {
            for (boolean seals : new boolean[] {true, false}) {
                for (int length = size + 1; length < 2 * size; length++) {
                    Expect.sentence("Terms", mode == 2 ? "(the last one may be shorter)" : "(the last may be shorter)");
                    Subject whole = Bytes.fed(filled(kind, 0), Bytes.some(2 * size));
                    Subject part = Bytes.fed(filled(kind, 0), Arrays.copyOf(Bytes.some(2 * size), length));
                    whole.mode(mode, seals);
                    Expect.equal("blocks of " + length, part.mode(mode, seals), 2);
                    Expect.equal(length + " bytes", Bytes.tape(part, length), Bytes.tape(whole, length));
                    Expect.equal("the next byte of " + length, part.feed(1, 0x5A), length + 1);
                    Expect.equal("the next byte of " + length, part.tape(length), 0x5A);
                }
            }
        }
    }

    private static void refusesModes(int kind) {
        for (int mode : new int[] {-1, 4, 5, -4, 256, Integer.MIN_VALUE, Integer.MAX_VALUE}) {
            for (boolean seals : new boolean[] {true, false}) {
                // With 5 and 9 bytes the state is wrong for modes 0 and 1 as well: the argument comes first.
                for (int length : new int[] {0, 5, 9, 16, 255, 256}) {
                    Expect.sentence("Promise 11", "IllegalArgumentException: mode is not 0 to 3.");
                    State.keptBy("mode " + mode + " with " + length + " bytes", ARGUMENT,
                            () -> filled(kind, length), x -> x.mode(mode, seals));
                }
            }
        }
    }

    private static void refusesParts(int kind) {
        Expect.sentence("Promise 11", "IllegalStateException: with 0 and 1 the tape has no whole blocks");
        for (int length = 1; length <= 256; length++) {
            if (length % size(kind) == 0 || length > 40 && length < 238) {
                continue;
            }
            int n = length;
            for (int mode = 0; mode <= 1; mode++) {
                int m = mode;
                for (boolean seals : new boolean[] {true, false}) {
                    State.keptBy("mode " + m + " with " + n + " bytes", STATE,
                            () -> filled(kind, n), x -> x.mode(m, seals));
                }
            }
        }
    }

    /** Kind 2 carries from the first long into the second one; the others end at the first one. */
    private static void counts(int kind) {
        Expect.sentence("Terms", "one more for each block, modulo 2^64 or 2^128");
        long[] firsts = {0, -1, -2, -3, 0xFFFFFFFFL, Long.MAX_VALUE, Long.MAX_VALUE - 1};
        for (long first : firsts) {
            for (long second : new long[] {0, 41, -1, Long.MAX_VALUE, 0xFFFFFFFFL}) {
                Subject x = keyed(kind);
                x.start(first, second);
                Bytes.fed(x, new byte[4 * size(kind)]);
                Expect.equal("counted blocks", x.mode(2, true), 4);
                for (int i = 0; i < 4; i++) {
                    boolean over = first < 0 && first + i >= 0;
                    long sealed = x.seal(first + i, over ? second + 1 : second, 1);
                    String name = "block " + i + " counted from " + first + " " + second;
                    Expect.equal(name, x.tape(i * size(kind)), sealed);
                    if (kind == 2) {
                        Expect.equal(name, x.tape(i * size(kind) + 8), x.other());
                    }
                }
            }
        }
    }

    /** Neither counting nor chaining goes on from one call to the next: each begins with the start. */
    private static void leavesTheStart(int kind) {
        Expect.sentence("Promise 10", "The start becomes another block");
        for (int mode = 0; mode <= 3; mode++) {
            for (boolean seals : new boolean[] {true, false}) {
                Subject x = keyed(kind);
                x.start(-1, -1);
                Bytes.fed(x, Bytes.some(64));
                x.mode(mode, seals);
                x.check();
                x.wipe();
                Subject y = keyed(kind);
                y.start(-1, -1);
                Expect.equal("the start behind mode " + mode, State.of(x), State.of(y));
                y = filled(kind, 0);
                y.start(-1, -1);
                Expect.equal("the last start counts", State.of(y), State.of(twiceStarted(kind)));
            }
        }
    }

    private static Subject twiceStarted(int kind) {
        Subject x = keyed(kind);
        x.start(5, 6);
        x.start(-1, -1);
        return x;
    }

    private static void startsWithFirstLong(int kind) {
        Expect.sentence("Promise 10", "(with 8 bytes the first long alone counts)");
        for (int mode = 1; mode <= 3; mode++) {
            for (boolean seals : new boolean[] {true, false}) {
                Subject x = filled(kind, 32);
                Subject y = filled(kind, 32);
                y.start(FIRST, SECOND + 1);
                Subject z = filled(kind, 32);
                z.start(FIRST + 1, SECOND);
                x.mode(mode, seals);
                y.mode(mode, seals);
                z.mode(mode, seals);
                String made = Bytes.tape(x, 32);
                Expect.isTrue("the second long with kind " + kind, made.equals(Bytes.tape(y, 32)) == (kind != 2));
                Expect.isTrue("the first long with kind " + kind, !made.equals(Bytes.tape(z, 32)));
            }
        }
        Subject x = filled(kind, 11);
        Subject y = filled(kind, 11);
        y.start(FIRST, SECOND + 1);
        Expect.isTrue("check() with kind " + kind, (x.check() == y.check()) == (kind != 2));
    }

    /** The start is a block of 16 bytes even if the kind has 8 when it is told. */
    private static void startOfAnotherKind() {
        Expect.sentence("Promise 10", "The start becomes another block");
        Subject x = new Subject();
        x.start(1, 2);
        x.key(2, 4);
        Bytes.fed(x, new byte[16]);
        x.mode(2, true);
        Expect.equal("the start behind key()", x.tape(0), x.seal(1, 2, 1));
        Expect.equal("the start behind key()", x.tape(8), x.other());
    }
}
