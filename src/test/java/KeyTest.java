/** Promises 5, 6 and 13, sentence by sentence: key, subkey, kind. How subkeys are made: SubkeysTest. */
public final class KeyTest {
    private static final String KEY_0 = "fedcba98765432100123456789abcdef";
    private static final Class<IllegalArgumentException> ARGUMENT = IllegalArgumentException.class;
    private static final Class<IllegalStateException> STATE = IllegalStateException.class;

    public static void main(String[] args) {
        takesKindAndRounds();
        takesTheTape();
        leavesOtherThings();
        refusesKinds();
        refusesRounds();
        refusesTapesOfKindZero();
        refusesLongTapes();
        refusesArgumentsFirst();
        tellsWordsWithoutSign();
        refusesSubkeys();
        Expect.finish();
    }

    /** An object with all its parts in use, and a row on the tape. */
    private static Subject used(int length) {
        Subject x = Bytes.keyed(2, 5, "0102");
        x.seal(1, 2, 1);
        x.start(11, 22);
        return Bytes.fed(x, Bytes.some(length));
    }

    private static void takesKindAndRounds() {
        for (int kind = 1; kind <= 2; kind++) {
            for (int rounds = 0; rounds <= 32; rounds++) {
                Subject x = used(16);
                Expect.sentence("Promise 5", "Answers how many subkeys there are.");
                Expect.equal("key(" + kind + ", " + rounds + ")", x.key(kind, rounds), 2 * rounds + 2 * kind);
                Expect.sentence("Promise 13", "The kind, and 4 times the rounds.");
                Expect.equal("kind() behind key(" + kind + ", " + rounds + ")", x.kind(), kind + 4 * rounds);
            }
        }
        Subject x = used(16);
        Expect.sentence("Promise 5", "Answers how many subkeys there are.");
        Expect.equal("key(0, 8)", x.key(0, 8), 52);
        Expect.sentence("Promise 13", "The kind, and 4 times the rounds.");
        Expect.equal("kind() behind key(0, 8)", x.kind(), 32);
        Expect.equal("kind() of a new object", new Subject().kind(), 32);
    }

    private static void takesTheTape() {
        Expect.sentence("Promise 5", "the tape as its key (it is empty then)");
        for (int kind = 0; kind <= 2; kind++) {
            for (int length : new int[] {0, 1, 16, 63, 64}) {
                if (kind == 0 && length != 16) {
                    continue;
                }
                Subject x = used(length);
                x.key(kind, 8);
                Expect.equal("tape(0) behind key()", x.tape(0), 0);
                Expect.equal("wipe() behind key()", x.wipe(), 0);
                Expect.equal("feed() behind key()", x.feed(1, 3), 1);
                Expect.equal("subkey(0)", x.subkey(0),
                        DocumentModel.subkeysOf(kind, 8, Bytes.some(length)).get(0));
            }
        }
    }

    /** The start, and what other() tells, are not the key's. */
    private static void leavesOtherThings() {
        Expect.sentence("Promise 5", "The kind, with so many rounds, and the tape as its key");
        Subject x = used(1);
        long second = x.other();
        Expect.isTrue("other() is not 0 here", second != 0);
        x.key(1, 12);
        Expect.equal("other() behind key()", x.other(), second);
        Expect.equal("check() behind key()", x.check(), 11);
    }

    private static void refusesKinds() {
        Expect.sentence("Promise 5", "IllegalArgumentException: kind is not 0 to 2");
        for (int kind : new int[] {-1, 3, 4, -2, 256, Integer.MIN_VALUE, Integer.MAX_VALUE}) {
            State.keptBy("key(" + kind + ", 8)", ARGUMENT, () -> used(16), x -> x.key(kind, 8));
        }
        for (int kind = 0; kind <= 2; kind++) {
            Expect.equal("key(" + kind + ", 8)", used(16).key(kind, 8), kind == 0 ? 52 : 16 + 2 * kind);
        }
    }

    private static void refusesRounds() {
        Expect.sentence("Promise 5", "or rounds not 8, with 0");
        for (int rounds : new int[] {7, 9, 0, -8, 32, 33, -1, Integer.MIN_VALUE, Integer.MAX_VALUE}) {
            State.keptBy("key(0, " + rounds + ")", ARGUMENT, () -> used(16), x -> x.key(0, rounds));
        }
        Expect.sentence("Promise 5", "or not 0 to 32, with the others.");
        for (int kind = 1; kind <= 2; kind++) {
            int k = kind;
            for (int rounds : new int[] {-1, 33, 34, -32, 256, Integer.MIN_VALUE, Integer.MAX_VALUE}) {
                State.keptBy("key(" + k + ", " + rounds + ")", ARGUMENT, () -> used(16), x -> x.key(k, rounds));
            }
            Expect.equal("key(" + k + ", 0)", used(16).key(k, 0), 2 * k);
            Expect.equal("key(" + k + ", 32)", used(16).key(k, 32), 64 + 2 * k);
        }
    }

    private static void refusesTapesOfKindZero() {
        Expect.sentence("Promise 5", "IllegalStateException: the tape hasn't 16 bytes, with 0");
        for (int length : new int[] {0, 1, 8, 15, 17, 24, 32, 64, 65, 255, 256}) {
            State.keptBy("key(0, 8) with " + length + " bytes", STATE, () -> used(length), x -> x.key(0, 8));
        }
        Expect.equal("key(0, 8) with 16 bytes", used(16).key(0, 8), 52);
    }

    private static void refusesLongTapes() {
        Expect.sentence("Promise 5", "or more than 64.");
        for (int kind = 1; kind <= 2; kind++) {
            int k = kind;
            for (int length : new int[] {65, 66, 68, 72, 128, 255, 256}) {
                State.keptBy("key(" + k + ", 3) with " + length + " bytes", STATE,
                        () -> used(length), x -> x.key(k, 3));
            }
            for (int length = 0; length <= 64; length++) {
                Expect.equal("key(" + k + ", 3) with " + length + " bytes", used(length).key(k, 3), 6 + 2 * k);
            }
        }
    }

    private static void refusesArgumentsFirst() {
        Expect.sentence("Terms", "Methods throw what their comments name, the one named first when several would do");
        for (int length : new int[] {0, 15, 17, 65, 256}) {
            for (int[] wrong : new int[][] {{-1, 8}, {3, 8}, {3, 33}, {0, 7}, {0, 9}}) {
                State.keptBy("key(" + wrong[0] + ", " + wrong[1] + ") with " + length + " bytes", ARGUMENT,
                        () -> used(length), x -> x.key(wrong[0], wrong[1]));
            }
        }
        for (int[] wrong : new int[][] {{1, -1}, {1, 33}, {2, -1}, {2, 33}}) {
            State.keptBy("key(" + wrong[0] + ", " + wrong[1] + ") with 65 bytes", ARGUMENT,
                    () -> used(65), x -> x.key(wrong[0], wrong[1]));
        }
    }

    private static void tellsWordsWithoutSign() {
        Expect.sentence("Promise 6", "Subkey i (as a word without sign).");
        Subject x = Bytes.keyed(0, 8, "ffffffffffffffffffffffffffffffff");
        for (int i = 0; i < 52; i++) {
            Expect.equal("subkey(" + i + ") of kind 0", x.subkey(i), 65535);
        }
        for (int kind = 1; kind <= 2; kind++) {
            Subject y = Bytes.keyed(kind, 32, KEY_0);
            int high = 0;
            for (int i = 0; i < 64 + 2 * kind; i++) {
                long word = y.subkey(i);
                Expect.equal("the sign of subkey(" + i + ")", word >>> 32, 0);
                Expect.equal("subkey(" + i + ")", word, DocumentModel.subkeysOf(kind, 32, Bytes.of(KEY_0)).get(i));
                high += word > Integer.MAX_VALUE ? 1 : 0;
            }
            Expect.isTrue("some words would have a sign", high > 0);
        }
    }

    private static void refusesSubkeys() {
        Expect.sentence("Promise 6", "IndexOutOfBoundsException: there is none.");
        subkeysEndAt(52, 0, 8);
        for (int rounds : new int[] {0, 1, 12, 31, 32}) {
            subkeysEndAt(2 * rounds + 2, 1, rounds);
            subkeysEndAt(2 * rounds + 4, 2, rounds);
        }
        State.keptBy("subkey(52) of a new object", IndexOutOfBoundsException.class, Subject::new, x -> x.subkey(52));
        // The subkeys of an earlier key with more rounds are gone; those of a refused key never come.
        Subject x = Bytes.keyed(2, 32, KEY_0);
        x.key(2, 0);
        Expect.throwing("subkey(4) behind a key with fewer rounds", IndexOutOfBoundsException.class, () -> x.subkey(4));
        Expect.throwing("key(2, 33)", ARGUMENT, () -> x.key(2, 33));
        Expect.throwing("subkey(4) behind a refused key", IndexOutOfBoundsException.class, () -> x.subkey(4));
    }

    private static void subkeysEndAt(int count, int kind, int rounds) {
        String with = " with kind " + kind + " and " + rounds + " rounds";
        Subject x = Bytes.keyed(kind, rounds, KEY_0);
        Expect.isTrue("subkey(0)" + with, x.subkey(0) >= 0);
        Expect.isTrue("the last subkey" + with, x.subkey(count - 1) >= 0);
        for (int i : new int[] {-1, count, count + 1, -count, 256, Integer.MIN_VALUE, Integer.MAX_VALUE}) {
            State.keptBy("subkey(" + i + ")" + with, IndexOutOfBoundsException.class,
                    () -> Bytes.keyed(kind, rounds, KEY_0), y -> y.subkey(i));
        }
    }
}
