import java.math.BigInteger;

/** What 'Terms' say of words, sums, products and turns, at their edges, and of the rounds of each kind. */
public final class WordsTest {
    private static final long WHOLE = 1L << 32;
    private static final String KEY = "915f4619be41b2516355a50110a9ce91";
    private static final long[] TURNS = {
        0, 1, 2, 30, 31, 32, 33, 63, 64, 65, 1L << 31, (1L << 31) + 31, WHOLE - 33, WHOLE - 32, WHOLE - 31, WHOLE - 1,
    };
    private static final int[] WORDS = {0, 1, 2, 255, 256, 257, 32767, 32768, 32769, 65534, 65535};

    public static void main(String[] args) {
        firstByteIsLowest();
        sumsOfKindOne();
        sumsOfKindTwo();
        turnsOfKindOne();
        turnsOfKindTwo();
        productsOfKindTwo();
        zeroCounts65536();
        productsAndSumsOfKindZero();
        everyWordHasAnInverse();
        everyNumberOfRounds();
        Expect.finish();
    }

    private static long paired(long low, long high) {
        return Math.floorMod(high, WHOLE) << 32 | Math.floorMod(low, WHOLE);
    }

    private static long turned(long word, long by) {
        String bits = Long.toBinaryString(WHOLE + word).substring(1);
        int n = (int) (by % 32);
        return Long.parseLong(bits.substring(n) + bits.substring(0, n), 2);
    }

    private static void there(String what, Face x, long[] block, long[] sealed) {
        Expect.equal(what + " sealed", x.seal(block[0], block[1], 1), sealed[0]);
        Expect.equal(what + " sealed, other()", x.other(), sealed[1]);
        Expect.equal(what + " opened", x.open(sealed[0], sealed[1], 1), block[0]);
        Expect.equal(what + " opened, other()", x.other(), block[1]);
    }

    /** Without rounds kind 1 grows its words alone: byte 0 is the lowest of the first word. */
    private static void firstByteIsLowest() {
        Expect.sentence("Terms", "the first byte is the lowest of the first one");
        Subject x = Bytes.keyed(1, 0, KEY);
        long zero = x.seal(0, 0, 1);
        Expect.equal("the first byte", x.seal(1, 0, 1), paired((zero & (WHOLE - 1)) + 1, zero >>> 32));
        Expect.equal("the fifth byte", x.seal(WHOLE, 0, 1), paired(zero & (WHOLE - 1), (zero >>> 32) + 1));
        Subject y = Bytes.fed(Bytes.keyed(1, 0, KEY), "0100000000000000");
        y.mode(0, true);
        Expect.equal("the tape's first byte", y.tape(0), x.seal(1, 0, 1));
        Subject z = Bytes.fed(Bytes.keyed(2, 3, KEY), "01000000000000000200000000000000");
        z.mode(0, true);
        Expect.equal("the tape's block of 16", z.tape(0), z.seal(1, 2, 1));
        Expect.equal("the tape's block of 16", z.tape(8), z.other());
    }

    private static void sumsOfKindOne() {
        Expect.sentence("Terms", "sums and products are modulo 2^16 or 2^32");
        Subject x = Bytes.keyed(1, 0, KEY);
        long s0 = x.subkey(0);
        long s1 = x.subkey(1);
        // The sum just below 2^32, at it and just above: nothing goes over into the other word.
        for (long a : new long[] {-1, 0, 1, WHOLE - 1}) {
            for (long b : new long[] {-1, 0, 1, WHOLE - 1}) {
                long[] plain = {paired(a - s0, b - s1), 0};
                there("sums " + a + " and " + b, x, plain, new long[] {paired(a, b), 0});
            }
        }
    }

    private static void sumsOfKindTwo() {
        Expect.sentence("Terms", "In the end a grows by subkey 2 R + 2, c by 2 R + 3.");
        Subject x = Bytes.keyed(2, 0, KEY);
        for (long low : new long[] {-1, 0, 1}) {
            for (long high : new long[] {-1, 0, 1}) {
                there("sums " + low + " and " + high, x,
                        new long[] {paired(low - x.subkey(2), high - x.subkey(0)),
                            paired(high - x.subkey(3), low - x.subkey(1))},
                        new long[] {paired(low, high), paired(high, low)});
            }
        }
    }

    /** One round, told backwards: the words before the turns are found from what the turns are to be. */
    private static void turnsOfKindOne() {
        Expect.sentence("Terms", "to TURN a word of 32 bits by n is to the left, by n modulo 32");
        for (long b : TURNS) {
            Subject x = Bytes.keyed(1, 1, KEY);
            long[] s = {x.subkey(0), x.subkey(1), x.subkey(2), x.subkey(3)};
            for (long a : TURNS) {
                long before = turned(Math.floorMod(a - s[2], WHOLE), 32 - b % 32) ^ b;
                long last = turned(b ^ a, a) + s[3];
                there("turns by " + b + " and " + a, x,
                        new long[] {paired(before - s[0], b - s[1]), 0}, new long[] {paired(a, last), 0});
            }
        }
    }

    private static long spread(long word) {
        BigInteger b = BigInteger.valueOf(word);
        BigInteger product = b.multiply(b.add(b).add(BigInteger.ONE));
        return turned(product.mod(BigInteger.valueOf(WHOLE)).longValue(), 5);
    }

    /** A word whose product, turned by 5, tells a turn by n. */
    private static long wordThatTurns(int n) {
        long word = 7;
        while (spread(word) % 32 != n) {
            word = (word * 69069 + 1) % WHOLE;
        }
        return word;
    }

    private static void roundOfKindTwo(String what, Subject x, long a, long b, long c, long d) {
        long t = spread(b);
        long u = spread(d);
        long last = turned(a ^ t, u) + x.subkey(2);
        long second = turned(c ^ u, t) + x.subkey(3);
        there(what, x, new long[] {paired(a, b - x.subkey(0)), paired(c, d - x.subkey(1))},
                new long[] {paired(b + x.subkey(4), second), paired(d + x.subkey(5), last)});
    }

    private static void turnsOfKindTwo() {
        Expect.sentence("Terms", "a becomes (a exclusive or t) turned by u");
        for (int n = 0; n < 32; n++) {
            Subject x = Bytes.keyed(2, 1, KEY);
            for (int m = 0; m < 32; m++) {
                roundOfKindTwo("turns by " + n + " and " + m, x,
                        0x80000001L, wordThatTurns(n), 0xC0000003L, wordThatTurns(m));
            }
        }
    }

    private static void productsOfKindTwo() {
        Expect.sentence("Terms", "sums and products are modulo 2^16 or 2^32");
        long[] edges = {0, 1, 2, 32767, 32768, 46340, 46341, 65535, 65536, 65537,
            (1L << 31) - 1, 1L << 31, (1L << 31) + 1, WHOLE - 2, WHOLE - 1};
        for (long b : edges) {
            Subject x = Bytes.keyed(2, 1, KEY);
            for (long d : edges) {
                roundOfKindTwo("products of " + b + " and " + d, x, WHOLE - 1, b, 1, d);
            }
        }
    }

    /** With subkeys 0 a product is one with 65536, which is 65537 less the word: 1 less the word. */
    private static void zeroCounts65536() {
        Expect.sentence("Terms", "as numbers, a 0 counting 65536, modulo 65537; 65536 is 0 again");
        int[] edges = {0, 1, 2, 32768, 65535};
        for (int x0 : edges) {
            for (int x1 : edges) {
                Subject x = new Subject();
                for (int x2 : edges) {
                    for (int x3 : edges) {
                        long block = blockOf(x0, x1, x2, x3);
                        there("words " + x0 + " " + x1 + " " + x2 + " " + x3, x,
                                new long[] {block, 0}, new long[] {sealedByZeros(x0, x1, x2, x3), 0});
                    }
                }
            }
        }
    }

    private static long blockOf(int x0, int x1, int x2, int x3) {
        return Bytes.first(String.format("%04x%04x%04x%04x", x0, x1, x2, x3));
    }

    private static int byZero(int word) {
        return (1 - word) & 0xFFFF;
    }

    private static long sealedByZeros(int x0, int x1, int x2, int x3) {
        for (int round = 1; round <= 8; round++) {
            int a = byZero(x0);
            int d = byZero(x3);
            int g = byZero(a ^ x2);
            int h = byZero((g + (x1 ^ d)) & 0xFFFF);
            int i = (g + h) & 0xFFFF;
            int b = x1;
            x0 = a ^ h;
            x1 = x2 ^ h;
            x2 = b ^ i;
            x3 = d ^ i;
        }
        return blockOf(byZero(x0), x2, x1, byZero(x3));
    }

    /** Each pair of words at the edges as word and subkey of the first round's four places. */
    private static void productsAndSumsOfKindZero() {
        Expect.sentence("Terms", "a is the product of x0 and k0, b the sum of x1 and k1, c of x2 and k2, "
                + "d the product of x3 and k3");
        for (int place = 0; place < 4; place++) {
            for (int subkey : WORDS) {
                int[] k = {0x1234, 0x5678, 0x9ABC, 0xDEF0};
                k[place] = subkey;
                String key = String.format("%04x%04x%04x%04x", k[0], k[1], k[2], k[3]) + "0f1e2d3c4b5a6978";
                Subject x = Bytes.keyed(0, 8, key);
                DocumentModel model = Bytes.fed(new DocumentModel(), key);
                model.key(0, 8);
                for (int word : WORDS) {
                    // The sums' edges: one below 65536, at it, one above.
                    for (int w : new int[] {word, 65535 - subkey, 65536 - subkey & 0xFFFF, 65537 - subkey & 0xFFFF}) {
                        int[] b = {7, 77, 777, 7777};
                        b[place] = w;
                        long block = blockOf(b[0], b[1], b[2], b[3]);
                        there("word " + w + " with subkey " + subkey, x,
                                new long[] {block, 0}, new long[] {model.seal(block, 0, 1), 0});
                    }
                }
            }
        }
    }

    /** Each word as subkey 0, so that each has an inverse that fits: 0, as 65536, too. */
    private static void everyWordHasAnInverse() {
        Expect.sentence("Terms", "To OPEN a block is to find the one that is SEALED to it.");
        int lost = 0;
        for (int word = 0; word < 65536; word++) {
            Subject x = new Subject();
            x.feed(2, word);
            x.feed(8, 0x0807060504030201L);
            x.feed(6, 0x0E0D0C0B0A09L);
            x.key(0, 8);
            lost += x.open(x.seal(word, 0, 1), 0, 1) == word ? 0 : 1;
        }
        Expect.equal("blocks lost with some subkey 0", lost, 0);
    }

    private static void everyNumberOfRounds() {
        Expect.sentence("Terms", "R rounds, 0 to 32");
        long[] edges = {0, 1, -1, Long.MIN_VALUE, Long.MAX_VALUE, 0xFFFFFFFFL, 0xFFFFFFFF00000000L,
            0x0123456789ABCDEFL};
        for (int kind = 1; kind <= 2; kind++) {
            for (int rounds = 0; rounds <= 32; rounds++) {
                Subject x = Bytes.keyed(kind, rounds, KEY);
                DocumentModel model = Bytes.fed(new DocumentModel(), KEY);
                model.key(kind, rounds);
                for (long first : edges) {
                    for (long second : edges) {
                        long wanted = kind == 2 ? second : 0;
                        long sealed = model.seal(first, second, 1);
                        there("kind " + kind + " with " + rounds + " rounds", x,
                                new long[] {first, wanted}, new long[] {sealed, model.other()});
                    }
                }
            }
        }
    }
}
