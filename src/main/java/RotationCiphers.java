/**
 * Three ciphers of sums, products and turns, with a tape of bytes that serves as key and as data.
 * Every row is made in a constructor and used again: no call makes an object, but for what it throws.
 */
public final class RotationCiphers {
    public static final int NONE = -1;

    private static final int KINDS = 3;
    private static final int MODES = 4;
    private static final int MOST_TIMES = 1000;

    private final Tape row = new Tape();
    private final Cipher[] ciphers = new Cipher[KINDS];
    private final Block origin = new Block();
    private final Block work = new Block();
    private final Block data = new Block();
    private final Block before = new Block();
    private Cipher cipher;
    private int kindNow;
    private long secondLong;

    public RotationCiphers() {
        ciphers[0] = new ProductCipher();
        ciphers[1] = new PairCipher();
        ciphers[2] = new QuadCipher();
        cipher = ciphers[0];
    }

    public int feed(int n, long bytes) throws IllegalArgumentException {
        if (n < 1 || n > 8) {
            throw new IllegalArgumentException("n is not 1 to 8");
        }
        if (row.length + n > Tape.LIMIT) {
            return NONE;
        }
        row.append(n, bytes);
        return row.length;
    }

    public int wipe() {
        int had = row.length;
        row.length = 0;
        return had;
    }

    public long tape(int i) {
        return row.longAt(i);
    }

    public int key(int kind, int rounds) throws IllegalArgumentException, IllegalStateException {
        if (kind < 0 || kind >= KINDS) {
            throw new IllegalArgumentException("kind is not 0 to 2");
        }
        Cipher next = ciphers[kind];
        if (!next.takesRounds(rounds)) {
            throw new IllegalArgumentException("the kind has not so many rounds");
        }
        if (!next.takesKey(row.length)) {
            throw new IllegalStateException("the tape is no key of the kind");
        }
        next.expand(row, rounds);
        row.length = 0;
        cipher = next;
        kindNow = kind;
        return next.count;
    }

    public long subkey(int i) throws IndexOutOfBoundsException {
        if (i < 0 || i >= cipher.count) {
            throw new IndexOutOfBoundsException("there is no such subkey");
        }
        return cipher.subkeys[i] & 0xFFFFFFFFL;
    }

    public long seal(long first, long second, int times) throws IllegalArgumentException {
        return repeat(first, second, times, true);
    }

    public long open(long first, long second, int times) throws IllegalArgumentException {
        return repeat(first, second, times, false);
    }

    public long other() {
        return secondLong;
    }

    /** Both longs are kept whatever the kind is now: a later kind may have blocks of 16 bytes. */
    public void start(long first, long second) {
        origin.set(first, second);
    }

    public int mode(int mode, boolean seals) throws IllegalArgumentException, IllegalStateException {
        if (mode < 0 || mode >= MODES) {
            throw new IllegalArgumentException("mode is not 0 to 3");
        }
        int blocks = blocksOnTape();
        if (mode <= 1 && blocks * cipher.blockBytes() != row.length) {
            throw new IllegalStateException("the tape has no whole blocks");
        }
        switch (mode) {
            case 0:
                passAlone(blocks, seals);
                break;
            case 1:
                if (seals) {
                    sealChain(blocks, true);
                } else {
                    openChain(blocks);
                }
                break;
            case 2:
                passCounted(blocks);
                break;
            default:
                passFedBack(blocks, seals);
                break;
        }
        return blocks;
    }

    public long check() {
        sealChain(blocksOnTape(), false);
        return before.first;
    }

    public int kind() {
        return kindNow + 4 * cipher.rounds;
    }

    private long repeat(long first, long second, int times, boolean seals) {
        if (times < 0 || times > MOST_TIMES) {
            throw new IllegalArgumentException("times is not 0 to 1000");
        }
        work.set(first, cipher.hasWideBlocks() ? second : 0);
        for (int i = 0; i < times; i++) {
            pass(work, seals);
        }
        secondLong = work.second;
        return work.first;
    }

    private void pass(Block block, boolean seals) {
        if (seals) {
            cipher.sealBlock(block);
        } else {
            cipher.openBlock(block);
        }
    }

    private int blocksOnTape() {
        int shift = cipher.hasWideBlocks() ? 4 : 3;
        return (row.length + cipher.blockBytes() - 1) >> shift;
    }

    private void load(Block block, int number) {
        int size = cipher.blockBytes();
        block.first = row.longAt(number * size);
        block.second = cipher.hasWideBlocks() ? row.longAt(number * size + 8) : 0;
    }

    private void store(Block block, int number) {
        int size = cipher.blockBytes();
        row.write(number * size, block.first);
        if (cipher.hasWideBlocks()) {
            row.write(number * size + 8, block.second);
        }
    }

    private void passAlone(int blocks, boolean seals) {
        for (int i = 0; i < blocks; i++) {
            load(data, i);
            pass(data, seals);
            store(data, i);
        }
    }

    /** Leaves the last sealed block (the start, if there is none) in before, for check() as well. */
    private void sealChain(int blocks, boolean stores) {
        before.copy(origin);
        for (int i = 0; i < blocks; i++) {
            load(data, i);
            before.mix(data);
            cipher.sealBlock(before);
            if (stores) {
                store(before, i);
            }
        }
    }

    private void openChain(int blocks) {
        before.copy(origin);
        for (int i = 0; i < blocks; i++) {
            load(data, i);
            work.copy(data);
            cipher.openBlock(work);
            work.mix(before);
            store(work, i);
            before.copy(data);
        }
    }

    private void passCounted(int blocks) {
        before.copy(origin);
        for (int i = 0; i < blocks; i++) {
            mixWithSealed(i);
            before.countOn();
        }
    }

    private void passFedBack(int blocks, boolean seals) {
        before.copy(origin);
        for (int i = 0; i < blocks; i++) {
            mixWithSealed(i);
            before.copy(seals ? work : data);
        }
    }

    /** Leaves the block as it was in data, and what it becomes in work as well as on the tape. */
    private void mixWithSealed(int number) {
        work.copy(before);
        cipher.sealBlock(work);
        load(data, number);
        work.mix(data);
        store(work, number);
    }

    /** A block of 16 bytes; one of 8 bytes has its first long alone. */
    private static final class Block {
        long first;
        long second;

        void set(long newFirst, long newSecond) {
            first = newFirst;
            second = newSecond;
        }

        void copy(Block from) {
            first = from.first;
            second = from.second;
        }

        void mix(Block with) {
            first ^= with.first;
            second ^= with.second;
        }

        /** The carry does no harm to a block of 8 bytes, whose second long nobody reads. */
        void countOn() {
            first++;
            if (first == 0) {
                second++;
            }
        }
    }

    private static final class Tape {
        static final int LIMIT = 256;

        final byte[] bytes = new byte[LIMIT];
        int length;

        void append(int n, long more) {
            int at = length;
            length += n;
            write(at, more);
        }

        long longAt(int at) {
            long sum = 0;
            for (int k = 0; k < 8; k++) {
                // Behind the greatest int the place wraps to below 0, where there is no byte either.
                int place = at + k;
                if (place >= 0 && place < length) {
                    sum |= (bytes[place] & 0xFFL) << (8 * k);
                }
            }
            return sum;
        }

        /** Bytes that would come behind the tape's end are dropped: a last block may be shorter. */
        void write(int at, long eight) {
            for (int k = 0; k < 8 && at + k < length; k++) {
                bytes[at + k] = (byte) (eight >>> (8 * k));
            }
        }
    }

    private abstract static class Cipher {
        final int[] subkeys;
        int count;
        int rounds;

        Cipher(int mostSubkeys) {
            subkeys = new int[mostSubkeys];
        }

        abstract boolean hasWideBlocks();

        abstract boolean takesRounds(int wanted);

        abstract boolean takesKey(int bytes);

        /** Asks for rounds and a tape that takesRounds() and takesKey() have said yes to. */
        abstract void expand(Tape source, int wantedRounds);

        abstract void sealBlock(Block block);

        abstract void openBlock(Block block);

        int blockBytes() {
            return hasWideBlocks() ? 16 : 8;
        }
    }

    /** Kind 0: words of 16 bits, products modulo 65537. */
    private static final class ProductCipher extends Cipher {
        static final int ROUNDS = 8;
        static final int SUBKEYS = 52;
        static final int KEY_BYTES = 16;

        final int[] inverses = new int[SUBKEYS];

        /** A key of bytes 0 has subkeys 0, and 0 (as 65536) is its own inverse: both rows stand. */
        ProductCipher() {
            super(SUBKEYS);
            count = SUBKEYS;
            rounds = ROUNDS;
        }

        boolean hasWideBlocks() {
            return false;
        }

        boolean takesRounds(int wanted) {
            return wanted == ROUNDS;
        }

        boolean takesKey(int bytes) {
            return bytes == KEY_BYTES;
        }

        void expand(Tape source, int wantedRounds) {
            long high = reversed(source.longAt(0));
            long low = reversed(source.longAt(8));
            for (int i = 0; i < SUBKEYS; i++) {
                int place = i & 7;
                subkeys[i] = word(place < 4 ? high : low, place & 3);
                inverses[i] = inverse(subkeys[i]);
                if (place == 7) {
                    long turnedHigh = high << 25 | low >>> 39;
                    low = low << 25 | high >>> 39;
                    high = turnedHigh;
                }
            }
        }

        void sealBlock(Block block) {
            long words = reversed(block.first);
            int x0 = word(words, 0);
            int x1 = word(words, 1);
            int x2 = word(words, 2);
            int x3 = word(words, 3);
            for (int r = 0; r < ROUNDS; r++) {
                int k = 6 * r;
                int a = product(x0, subkeys[k]);
                int b = sum(x1, subkeys[k + 1]);
                int c = sum(x2, subkeys[k + 2]);
                int d = product(x3, subkeys[k + 3]);
                int g = product(subkeys[k + 4], a ^ c);
                int h = product(subkeys[k + 5], sum(g, b ^ d));
                int i = sum(g, h);
                x0 = a ^ h;
                x1 = c ^ h;
                x2 = b ^ i;
                x3 = d ^ i;
            }
            block.first = packed(product(x0, subkeys[48]), sum(x2, subkeys[49]),
                    sum(x1, subkeys[50]), product(x3, subkeys[51]));
        }

        /** The h and i of a round can be found again: they cancel out in x0 ^ x1 and x2 ^ x3. */
        void openBlock(Block block) {
            long words = reversed(block.first);
            int x0 = product(word(words, 0), inverses[48]);
            int x2 = sum(word(words, 1), -subkeys[49]);
            int x1 = sum(word(words, 2), -subkeys[50]);
            int x3 = product(word(words, 3), inverses[51]);
            for (int r = ROUNDS - 1; r >= 0; r--) {
                int k = 6 * r;
                int g = product(subkeys[k + 4], x0 ^ x1);
                int h = product(subkeys[k + 5], sum(g, x2 ^ x3));
                int i = sum(g, h);
                int c = x1 ^ h;
                int b = x2 ^ i;
                x0 = product(x0 ^ h, inverses[k]);
                x1 = sum(b, -subkeys[k + 1]);
                x2 = sum(c, -subkeys[k + 2]);
                x3 = product(x3 ^ i, inverses[k + 3]);
            }
            block.first = packed(x0, x1, x2, x3);
        }

        static int sum(int x, int y) {
            return (x + y) & 0xFFFF;
        }

        static int product(int x, int y) {
            long p = (x == 0 ? 65536L : x) * (y == 0 ? 65536L : y);
            return (int) (p % 65537L) & 0xFFFF;
        }

        /** By Fermat: 65537 is prime, so the power 65535, sixteen ones in binary, is the inverse. */
        static int inverse(int x) {
            int power = 1;
            int square = x;
            for (int i = 0; i < 16; i++) {
                power = product(power, square);
                square = product(square, square);
            }
            return power;
        }

        static int word(long words, int place) {
            return (int) (words >>> (48 - 16 * place)) & 0xFFFF;
        }

        static long packed(int x0, int x1, int x2, int x3) {
            return reversed((long) x0 << 48 | (long) x1 << 32 | (long) x2 << 16 | x3);
        }

        static long reversed(long bytes) {
            long turned = 0;
            for (int k = 0; k < 8; k++) {
                turned = turned << 8 | (bytes >>> (8 * k)) & 0xFF;
            }
            return turned;
        }
    }

    /** What kinds 1 and 2 have in common: words of 32 bits, and how the key becomes subkeys. */
    private abstract static class TurnCipher extends Cipher {
        static final int MOST_ROUNDS = 32;
        static final int MOST_KEY_BYTES = 64;
        static final int FIRST_SUBKEY = (int) 3084996963L;
        static final int SUBKEY_STEP = (int) 2654435769L;

        final int[] keyWords = new int[MOST_KEY_BYTES / 4];
        final int spareSubkeys;

        TurnCipher(int spare) {
            super(2 * MOST_ROUNDS + spare);
            spareSubkeys = spare;
        }

        boolean takesRounds(int wanted) {
            return wanted >= 0 && wanted <= MOST_ROUNDS;
        }

        boolean takesKey(int bytes) {
            return bytes <= MOST_KEY_BYTES;
        }

        void expand(Tape source, int wantedRounds) {
            rounds = wantedRounds;
            count = 2 * wantedRounds + spareSubkeys;
            int words = Math.max(1, (source.length + 3) >> 2);
            for (int j = 0; j < words; j++) {
                keyWords[j] = (int) source.longAt(4 * j);
            }
            for (int i = 0; i < count; i++) {
                subkeys[i] = FIRST_SUBKEY + i * SUBKEY_STEP;
            }
            stir(words);
        }

        private void stir(int words) {
            int steps = 3 * Math.max(count, words);
            int a = 0;
            int b = 0;
            int i = 0;
            int j = 0;
            for (int step = 0; step < steps; step++) {
                a = turned(subkeys[i] + a + b, 3);
                subkeys[i] = a;
                b = turned(keyWords[j] + a + b, a + b);
                keyWords[j] = b;
                i = i + 1 < count ? i + 1 : 0;
                j = j + 1 < words ? j + 1 : 0;
            }
        }

        static int turned(int x, int by) {
            int n = by & 31;
            return x << n | x >>> ((32 - n) & 31);
        }

        static int turnedBack(int x, int by) {
            return turned(x, -by);
        }

        static int lowWord(long pair) {
            return (int) pair;
        }

        static int highWord(long pair) {
            return (int) (pair >>> 32);
        }

        static long paired(int low, int high) {
            return (long) high << 32 | low & 0xFFFFFFFFL;
        }
    }

    /** Kind 1: two words, each turned by as much as the other one tells. */
    private static final class PairCipher extends TurnCipher {
        PairCipher() {
            super(2);
        }

        boolean hasWideBlocks() {
            return false;
        }

        void sealBlock(Block block) {
            int a = lowWord(block.first) + subkeys[0];
            int b = highWord(block.first) + subkeys[1];
            for (int r = 1; r <= rounds; r++) {
                a = turned(a ^ b, b) + subkeys[2 * r];
                b = turned(b ^ a, a) + subkeys[2 * r + 1];
            }
            block.first = paired(a, b);
        }

        void openBlock(Block block) {
            int a = lowWord(block.first);
            int b = highWord(block.first);
            for (int r = rounds; r >= 1; r--) {
                b = turnedBack(b - subkeys[2 * r + 1], a) ^ a;
                a = turnedBack(a - subkeys[2 * r], b) ^ b;
            }
            block.first = paired(a - subkeys[0], b - subkeys[1]);
        }
    }

    /** Kind 2: four words, two of them turned by as much as products of the others tell. */
    private static final class QuadCipher extends TurnCipher {
        QuadCipher() {
            super(4);
        }

        boolean hasWideBlocks() {
            return true;
        }

        void sealBlock(Block block) {
            int a = lowWord(block.first);
            int b = highWord(block.first) + subkeys[0];
            int c = lowWord(block.second);
            int d = highWord(block.second) + subkeys[1];
            for (int r = 1; r <= rounds; r++) {
                int t = spread(b);
                int u = spread(d);
                int last = turned(a ^ t, u) + subkeys[2 * r];
                a = b;
                b = turned(c ^ u, t) + subkeys[2 * r + 1];
                c = d;
                d = last;
            }
            a += subkeys[2 * rounds + 2];
            c += subkeys[2 * rounds + 3];
            block.set(paired(a, b), paired(c, d));
        }

        void openBlock(Block block) {
            int a = lowWord(block.first) - subkeys[2 * rounds + 2];
            int b = highWord(block.first);
            int c = lowWord(block.second) - subkeys[2 * rounds + 3];
            int d = highWord(block.second);
            for (int r = rounds; r >= 1; r--) {
                int t = spread(a);
                int u = spread(c);
                int first = turnedBack(d - subkeys[2 * r], u) ^ t;
                d = c;
                c = turnedBack(b - subkeys[2 * r + 1], t) ^ u;
                b = a;
                a = first;
            }
            block.set(paired(a, b - subkeys[0]), paired(c, d - subkeys[1]));
        }

        static int spread(int x) {
            return turned(x * (2 * x + 1), 5);
        }
    }
}
