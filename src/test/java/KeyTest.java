import java.math.BigInteger;

/** Promises 5, 6 and 13: key, subkey, kind. */
public final class KeyTest {
    private static final String KEY_0 = "fedcba98765432100123456789abcdef";

    public static void main(String[] args) {
        kindZeroSubkeys();
        counts();
        emptyAndZeroKeys();
        keyTakesTheTape();
        wrongKinds();
        wrongRounds();
        wrongTapes();
        argumentsComeFirst();
        wrongSubkeys();
        otherThingsStay();
        Expect.finish();
    }

    /** Against the key as one number of 128 bits, turned by 25 for each row of eight. */
    private static void kindZeroSubkeys() {
        RotationCiphers x = new RotationCiphers();
        Bytes.feed(x, KEY_0);
        Expect.equal("key(0, 8)", x.key(0, 8), 52);
        BigInteger number = new BigInteger(KEY_0, 16);
        BigInteger mask = BigInteger.ONE.shiftLeft(128).subtract(BigInteger.ONE);
        for (int i = 0; i < 52; i++) {
            int by = 25 * (i / 8) % 128;
            BigInteger turned = number.shiftLeft(by).or(number.shiftRight(128 - by)).and(mask);
            long want = turned.shiftRight(112 - 16 * (i % 8)).longValue() & 0xFFFF;
            Expect.equal("subkey(" + i + ") of kind 0", x.subkey(i), want);
        }
    }

    private static void counts() {
        RotationCiphers x = new RotationCiphers();
        for (int rounds = 0; rounds <= 32; rounds++) {
            int r = rounds;
            for (int kind = 1; kind <= 2; kind++) {
                int count = 2 * rounds + 2 * kind;
                x.feed(5, rounds);
                Expect.equal("key(" + kind + ", " + rounds + ")", x.key(kind, rounds), count);
                Expect.equal("kind()", x.kind(), kind + 4 * rounds);
                Expect.isTrue("the last subkey has 32 bits", x.subkey(count - 1) >>> 32 == 0);
                Expect.throwing("subkey(" + count + ") with " + r + " rounds",
                        IndexOutOfBoundsException.class, () -> x.subkey(count));
            }
        }
        Bytes.feed(x, KEY_0);
        Expect.equal("key(0, 8)", x.key(0, 8), 52);
        Expect.equal("kind()", x.kind(), 32);
    }

    /** No key, one byte 0 and four bytes 0 are one word 0; eight bytes 0 are two. */
    private static void emptyAndZeroKeys() {
        for (int kind = 1; kind <= 2; kind++) {
            RotationCiphers none = Bytes.keyed(kind, 12, "");
            String[] same = {"00", "0000", "00000000"};
            for (String hex : same) {
                Expect.equal("a key " + hex, State.of(Bytes.keyed(kind, 12, hex)), State.of(none));
            }
            Expect.isTrue("two words are not one",
                    Bytes.keyed(kind, 12, "0000000000").subkey(0) != none.subkey(0));
        }
        // Bytes that an earlier, longer key left behind must not come into a shorter one.
        RotationCiphers x = Bytes.keyed(1, 12, "ffffffffffffffffffffffff");
        long sealed = Bytes.keyed(1, 12, "").seal(0, 0, 1);
        x.feed(1, 0);
        x.key(1, 12);
        Expect.equal("a short key behind a long one", x.seal(0, 0, 1), sealed);
        x.key(1, 12);
        Expect.equal("an empty key behind a short one", x.seal(0, 0, 1), sealed);
        // One round of kind 1 has 4 subkeys, and 16 words of key are more.
        Expect.equal("subkeys with more words than subkeys", longKeySubkeys(),
                DocumentModel.subkeysOf(1, 1, longKey()).toString());
    }

    private static byte[] longKey() {
        byte[] key = new byte[64];
        for (int i = 0; i < 64; i++) {
            key[i] = (byte) (i * 37 + 200);
        }
        return key;
    }

    private static String longKeySubkeys() {
        RotationCiphers x = new RotationCiphers();
        for (byte b : longKey()) {
            x.feed(1, b);
        }
        x.key(1, 1);
        return java.util.List.of(x.subkey(0), x.subkey(1), x.subkey(2), x.subkey(3)).toString();
    }

    private static void keyTakesTheTape() {
        RotationCiphers x = new RotationCiphers();
        Bytes.feed(x, KEY_0);
        x.key(0, 8);
        Expect.equal("the tape behind key()", x.tape(0), 0);
        Expect.equal("wipe() behind key()", x.wipe(), 0);
        for (int i = 0; i < 8; i++) {
            x.feed(8, -1);
        }
        Expect.equal("key() with 64 bytes", x.key(2, 20), 44);
        Expect.equal("wipe() behind key() with 64 bytes", x.wipe(), 0);
    }

    private static void wrongKinds() {
        RotationCiphers x = Bytes.keyed(2, 5, "0102");
        Bytes.feed(x, KEY_0);
        for (int kind : new int[] {-1, 3, 4, Integer.MIN_VALUE, Integer.MAX_VALUE}) {
            State.keptBy("key(" + kind + ", 8)", IllegalArgumentException.class, x, () -> x.key(kind, 8));
        }
    }

    private static void wrongRounds() {
        RotationCiphers x = Bytes.keyed(1, 5, "0102");
        Bytes.feed(x, KEY_0);
        for (int rounds : new int[] {0, 7, 9, -8, 32, Integer.MIN_VALUE, Integer.MAX_VALUE}) {
            State.keptBy("key(0, " + rounds + ")", IllegalArgumentException.class, x, () -> x.key(0, rounds));
        }
        for (int rounds : new int[] {-1, 33, Integer.MIN_VALUE, Integer.MAX_VALUE}) {
            State.keptBy("key(1, " + rounds + ")", IllegalArgumentException.class, x, () -> x.key(1, rounds));
            State.keptBy("key(2, " + rounds + ")", IllegalArgumentException.class, x, () -> x.key(2, rounds));
        }
    }

    private static void wrongTapes() {
        RotationCiphers x = Bytes.keyed(1, 7, "0102");
        for (int length = 0; length <= 70; length++) {
            int n = length;
            if (length != 16) {
                State.keptBy("key(0, 8) with " + n + " bytes", IllegalStateException.class, x, () -> x.key(0, 8));
            }
            if (length > 64) {
                State.keptBy("key(1, 3) with " + n + " bytes", IllegalStateException.class, x, () -> x.key(1, 3));
                State.keptBy("key(2, 3) with " + n + " bytes", IllegalStateException.class, x, () -> x.key(2, 3));
            }
            x.feed(1, length);
        }
    }

    private static void argumentsComeFirst() {
        RotationCiphers x = new RotationCiphers();
        for (int i = 0; i < 9; i++) {
            x.feed(8, i);
        }
        State.keptBy("key(3, 8) with a long tape", IllegalArgumentException.class, x, () -> x.key(3, 8));
        State.keptBy("key(0, 7) with a long tape", IllegalArgumentException.class, x, () -> x.key(0, 7));
        State.keptBy("key(1, 33) with a long tape", IllegalArgumentException.class, x, () -> x.key(1, 33));
        State.keptBy("key(2, -1) with a long tape", IllegalArgumentException.class, x, () -> x.key(2, -1));
    }

    private static void wrongSubkeys() {
        RotationCiphers x = Bytes.keyed(2, 32, KEY_0);
        for (int i : new int[] {-1, 68, Integer.MIN_VALUE, Integer.MAX_VALUE}) {
            State.keptBy("subkey(" + i + ")", IndexOutOfBoundsException.class, x, () -> x.subkey(i));
        }
        // Subkeys of an earlier key with more rounds are gone.
        x.key(2, 0);
        State.keptBy("subkey(4)", IndexOutOfBoundsException.class, x, () -> x.subkey(4));
    }

    /** The start, and what other() tells, are not the key's. */
    private static void otherThingsStay() {
        RotationCiphers x = Bytes.keyed(2, 20, KEY_0);
        x.seal(1, 2, 1);
        long second = x.other();
        x.start(11, 22);
        x.feed(1, 5);
        x.key(1, 12);
        Expect.equal("other() behind key()", x.other(), second);
        Expect.equal("check() behind key()", x.check(), 11);
    }
}
