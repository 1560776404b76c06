import java.util.List;

/** What 'Terms' say of keys and how they become subkeys, at the edges of their lengths and counts. */
public final class SubkeysTest {
    public static void main(String[] args) {
        wordsOfKindZero();
        everyBitTurned();
        knownSubkeys();
        emptyKeyIsOneWord();
        shortWordsAreFilled();
        wholeWordsAreNotFilled();
        stepsBySubkeysOrWords();
        everyLengthAndRounds();
        nothingOfEarlierKeys();
        Expect.finish();
    }

    private static List<Long> subkeys(Subject x, int count) {
        Long[] row = new Long[count];
        for (int i = 0; i < count; i++) {
            row[i] = x.subkey(i);
        }
        return List.of(row);
    }

    private static String made(int kind, int rounds, byte[] key) {
        Subject x = Bytes.fed(new Subject(), key);
        return subkeys(x, x.key(kind, rounds)).toString();
    }

    private static void wordsOfKindZero() {
        Expect.sentence("Terms", "The subkeys 0 to 7 are the key's words, the higher byte first");
        Subject x = Bytes.keyed(0, 8, "00018000ff0000ff7fff80010203fffe");
        int[] words = {0x0001, 0x8000, 0xFF00, 0x00FF, 0x7FFF, 0x8001, 0x0203, 0xFFFE};
        for (int i = 0; i < 8; i++) {
            Expect.equal("subkey(" + i + ")", x.subkey(i), words[i]);
        }
    }

    /** A key with one bit set: turned left by 25 for each row of eight, round about over 128 bits. */
    private static void everyBitTurned() {
        Expect.sentence("Terms", "the next eight those of the key turned left by 25 bits");
        for (int bit = 0; bit < 128; bit++) {
            byte[] key = new byte[16];
            key[bit / 8] = (byte) (0x80 >> (bit % 8));
            Subject x = Bytes.keyed(0, 8, key);
            for (int i = 0; i < 52; i++) {
                int place = (bit - 25 * (i / 8) + 256) % 128;
                long want = place / 16 == i % 8 ? 0x8000 >> (place % 16) : 0;
                Expect.equal("subkey(" + i + ") with bit " + bit, x.subkey(i), want);
            }
        }
    }

    private static void knownSubkeys() {
        Expect.sentence("Terms", "Subkey 0 is 3084996963 at first, each further one the one before and 2654435769.");
        Subject x = Bytes.keyed(1, 0, "00");
        Expect.equal("subkey(0)", x.subkey(0), 0x4DBA7B7AL);
        Expect.equal("subkey(1)", x.subkey(1), 0x1E1D1179L);
    }

    private static void emptyKeyIsOneWord() {
        Expect.sentence("Terms", "The key gets bytes 0 up to whole words, one at least");
        for (int kind = 1; kind <= 2; kind++) {
            for (int rounds : new int[] {0, 1, 12, 32}) {
                String none = made(kind, rounds, new byte[0]);
                for (int length = 1; length <= 4; length++) {
                    Expect.equal("a key of bytes 0, " + length, made(kind, rounds, new byte[length]), none);
                }
                Expect.isTrue("five bytes 0 are two words", !made(kind, rounds, new byte[5]).equals(none));
            }
        }
    }

    private static void shortWordsAreFilled() {
        Expect.sentence("Terms", "The key gets bytes 0 up to whole words");
        for (int length = 1; length <= 64; length++) {
            byte[] key = Bytes.some(length);
            byte[] whole = java.util.Arrays.copyOf(key, (length + 3) / 4 * 4);
            Expect.equal("a key of " + length, made(1, 12, key), made(1, 12, whole));
            Expect.equal("a key of " + length, made(2, 20, key), made(2, 20, whole));
        }
    }

    private static void wholeWordsAreNotFilled() {
        Expect.sentence("Terms", "The key gets bytes 0 up to whole words");
        for (int length = 4; length <= 60; length += 4) {
            byte[] key = Bytes.some(length);
            byte[] longer = java.util.Arrays.copyOf(key, length + 1);
            Expect.isTrue(length + 1 + " bytes have a word more", !made(1, 12, key).equals(made(1, 12, longer)));
            Expect.isTrue(length + 1 + " bytes have a word more", !made(2, 20, key).equals(made(2, 20, longer)));
        }
    }

    /** Kind, rounds and bytes of key such that the words are one fewer, as many, and more than the subkeys. */
    private static void stepsBySubkeysOrWords() {
        Expect.sentence("Terms", "three times as many times as there are subkeys, or words of L, if these are more");
        int[][] edges = {
            {1, 0, 4}, {1, 0, 8}, {1, 0, 9}, {1, 0, 64}, {1, 1, 16}, {1, 1, 17},
            {1, 6, 56}, {1, 6, 57}, {1, 7, 60}, {1, 7, 64}, {1, 8, 64}, {1, 32, 64}, {1, 32, 0},
            {2, 0, 12}, {2, 0, 16}, {2, 0, 17}, {2, 0, 64}, {2, 5, 56}, {2, 5, 57},
            {2, 6, 60}, {2, 6, 64}, {2, 7, 64}, {2, 32, 64}, {2, 32, 0},
        };
        for (int[] edge : edges) {
            byte[] key = Bytes.some(edge[2]);
            String what = "kind " + edge[0] + " with " + edge[1] + " rounds and " + edge[2] + " bytes of key";
            Expect.equal(what, made(edge[0], edge[1], key), slowly(2 * edge[1] + 2 * edge[0], key).toString());
        }
    }

    private static long turned(long word, long by) {
        String bits = Long.toBinaryString((1L << 32) + word).substring(1);
        int n = (int) (by % 32);
        return Long.parseLong(bits.substring(n) + bits.substring(0, n), 2);
    }

    /** The document's words, with numbers without sign and turns of written bits. */
    private static List<Long> slowly(int count, byte[] key) {
        long whole = 1L << 32;
        long[] words = new long[Math.max(1, (key.length + 3) / 4)];
        for (int j = 0; j < words.length; j++) {
            words[j] = Bytes.longAt(key, 4 * j) & (whole - 1);
        }
        Long[] made = new Long[count];
        for (int i = 0; i < count; i++) {
            made[i] = i == 0 ? 3084996963L : (made[i - 1] + 2654435769L) % whole;
        }
        long a = 0;
        long b = 0;
        int steps = 3 * (words.length > count ? words.length : count);
        for (int step = 0; step < steps; step++) {
            a = turned((made[step % count] + a + b) % whole, 3);
            made[step % count] = a;
            b = turned((words[step % words.length] + a + b) % whole, a + b);
            words[step % words.length] = b;
        }
        return List.of(made);
    }

    private static void everyLengthAndRounds() {
        Expect.sentence("Terms", "keys of up to 64 bytes, none too; R rounds, 0 to 32");
        for (int kind = 1; kind <= 2; kind++) {
            for (int rounds = 0; rounds <= 32; rounds++) {
                for (int length = 0; length <= 64; length++) {
                    byte[] key = Bytes.some(length);
                    Expect.equal("kind " + kind + " with " + rounds + " rounds and " + length + " bytes of key",
                            made(kind, rounds, key), DocumentModel.subkeysOf(kind, rounds, key).toString());
                }
            }
        }
    }

    /** A longer key, or one with more rounds, leaves nothing that a later one takes up. */
    private static void nothingOfEarlierKeys() {
        Expect.sentence("Promise 5", "The kind, with so many rounds, and the tape as its key");
        for (int kind = 1; kind <= 2; kind++) {
            for (int length : new int[] {0, 1, 5, 16}) {
                for (int rounds : new int[] {0, 3, 32}) {
                    Subject x = Bytes.keyed(kind, 32, Bytes.some(64));
                    Bytes.fed(x, Bytes.some(length));
                    int count = x.key(kind, rounds);
                    Expect.equal("kind " + kind + " with " + length + " bytes behind a key of 64",
                            subkeys(x, count).toString(), made(kind, rounds, Bytes.some(length)));
                }
            }
        }
        Subject x = Bytes.keyed(0, 8, "ffffffffffffffffffffffffffffffff");
        x = Bytes.fed(x, new byte[16]);
        x.key(0, 8);
        Expect.equal("kind 0 with a key of bytes 0", State.of(x), State.of(new Subject()));
    }
}
