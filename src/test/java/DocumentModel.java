import java.math.BigInteger;
import java.util.ArrayList;
import java.util.Arrays;
import java.util.List;

/**
 * The document once more, slowly and by other means than the class: lists of bytes, big numbers,
 * kind 0 opened by subkeys turned round, the other kinds by undoing noted steps.
 */
final class DocumentModel implements Face {
    private static final BigInteger WORD = BigInteger.ONE.shiftLeft(32);

    private List<Integer> tape = new ArrayList<>();
    private List<Long> subkeys = subkeysOf(0, 8, new byte[16]);
    private int kind = 0;
    private int rounds = 8;
    private BigInteger start = BigInteger.ZERO;
    private long other = 0;

    @Override
    public int feed(int n, long bytes) {
        need(n >= 1 && n <= 8);
        if (tape.size() + n > 256) {
            return -1;
        }
        for (int k = 0; k < n; k++) {
            tape.add((int) (bytes >> (8 * k)) & 255);
        }
        return tape.size();
    }

    @Override
    public int wipe() {
        int had = tape.size();
        tape = new ArrayList<>();
        return had;
    }

    @Override
    public long tape(int i) {
        return onTape(i, 8).longValue();
    }

    @Override
    public int key(int newKind, int newRounds) {
        need(newKind >= 0 && newKind <= 2);
        need(newKind == 0 ? newRounds == 8 : newRounds >= 0 && newRounds <= 32);
        if (newKind == 0 ? tape.size() != 16 : tape.size() > 64) {
            throw new IllegalStateException();
        }
        byte[] key = new byte[tape.size()];
        for (int i = 0; i < key.length; i++) {
            key[i] = (byte) (int) tape.get(i);
        }
        subkeys = subkeysOf(newKind, newRounds, key);
        kind = newKind;
        rounds = newRounds;
        wipe();
        return subkeys.size();
    }

    @Override
    public long subkey(int i) {
        if (i < 0 || i >= subkeys.size()) {
            throw new IndexOutOfBoundsException();
        }
        return subkeys.get(i);
    }

    @Override
    public long seal(long first, long second, int times) {
        return many(first, second, times, true);
    }

    @Override
    public long open(long first, long second, int times) {
        return many(first, second, times, false);
    }

    private long many(long first, long second, int times, boolean seals) {
        need(times >= 0 && times <= 1000);
        BigInteger block = cut(ofLongs(first, second));
        for (int i = 0; i < times; i++) {
            block = seals ? sealed(block) : opened(block);
        }
        other = block.shiftRight(64).longValue();
        return block.longValue();
    }

    @Override
    public long other() {
        return other;
    }

    @Override
    public void start(long first, long second) {
        start = ofLongs(first, second);
    }

    @Override
    public int mode(int mode, boolean seals) {
        need(mode >= 0 && mode <= 3);
        if (mode <= 1 && tape.size() % size() != 0) {
            throw new IllegalStateException();
        }
        List<BigInteger> made = blocksMade(mode, seals);
        for (int i = 0; i < tape.size(); i++) {
            tape.set(i, made.get(i / size()).shiftRight(8 * (i % size())).intValue() & 255);
        }
        return made.size();
    }

    @Override
    public long check() {
        List<BigInteger> made = blocksMade(1, true);
        return made.isEmpty() ? start.longValue() : made.get(made.size() - 1).longValue();
    }

    @Override
    public int kind() {
        return kind + 4 * rounds;
    }

    private List<BigInteger> blocksMade(int mode, boolean seals) {
        List<BigInteger> made = new ArrayList<>();
        BigInteger last = cut(start);
        for (int at = 0; at < tape.size(); at += size()) {
            BigInteger block = onTape(at, size());
            BigInteger becomes;
            if (mode == 0) {
                becomes = seals ? sealed(block) : opened(block);
            } else if (mode == 1) {
                becomes = seals ? sealed(block.xor(last)) : opened(block).xor(last);
            } else {
                becomes = block.xor(sealed(last));
            }
            made.add(becomes);
            last = mode == 2 ? cut(last.add(BigInteger.ONE)) : seals ? becomes : block;
        }
        return made;
    }

    private static void need(boolean holds) {
        if (!holds) {
            throw new IllegalArgumentException();
        }
    }

    private int size() {
        return kind == 2 ? 16 : 8;
    }

    private BigInteger cut(BigInteger number) {
        return number.mod(BigInteger.ONE.shiftLeft(8 * size()));
    }

    private static BigInteger ofLongs(long first, long second) {
        BigInteger low = new BigInteger(Long.toUnsignedString(first));
        return new BigInteger(Long.toUnsignedString(second)).shiftLeft(64).add(low);
    }

    private BigInteger onTape(int at, int size) {
        BigInteger number = BigInteger.ZERO;
        for (int k = size - 1; k >= 0; k--) {
            long place = (long) at + k;
            int b = place >= 0 && place < tape.size() ? tape.get((int) place) : 0;
            number = number.shiftLeft(8).add(BigInteger.valueOf(b));
        }
        return number;
    }

    private BigInteger sealed(BigInteger block) {
        return kind == 0 ? products(block, subkeys) : kind == 1 ? pairSealed(block) : quadSealed(block);
    }

    private BigInteger opened(BigInteger block) {
        return kind == 0 ? products(block, turnedRound()) : kind == 1 ? pairOpened(block) : quadOpened(block);
    }

    static List<Long> subkeysOf(int kind, int rounds, byte[] key) {
        return kind == 0 ? productSubkeys(key) : turnSubkeys(2 * rounds + 2 * kind, key);
    }

    private static List<Long> productSubkeys(byte[] key) {
        List<Long> made = new ArrayList<>();
        StringBuilder bits = new StringBuilder();
        for (byte b : key) {
            bits.append(Integer.toBinaryString(256 + (b & 255)).substring(1));
        }
        String row = bits.toString();
        while (made.size() < 52) {
            for (int i = 0; i < 8 && made.size() < 52; i++) {
                made.add(Long.parseLong(row.substring(16 * i, 16 * i + 16), 2));
            }
            row = row.substring(25) + row.substring(0, 25);
        }
        return made;
    }

    private static List<Long> turnSubkeys(int count, byte[] key) {
        int[] words = new int[Math.max(1, (key.length + 3) / 4)];
        for (int i = 0; i < key.length; i++) {
            words[i / 4] += (key[i] & 255) << (8 * (i % 4));
        }
        int[] s = new int[count];
        s[0] = 0xB7E15163;
        for (int i = 1; i < count; i++) {
            s[i] = s[i - 1] + 0x9E3779B9;
        }
        int a = 0;
        int b = 0;
        for (int n = 0; n < 3 * Math.max(count, words.length); n++) {
            a = s[n % count] = Integer.rotateLeft(s[n % count] + a + b, 3);
            b = words[n % words.length] = Integer.rotateLeft(words[n % words.length] + a + b, a + b);
        }
        List<Long> made = new ArrayList<>();
        Arrays.stream(s).forEach(word -> made.add(Integer.toUnsignedLong(word)));
        return made;
    }

    private static int product(long x, long y) {
        long p = Long.remainderUnsigned((x == 0 ? 65536 : x) * (y == 0 ? 65536 : y), 65537);
        return p == 65536 ? 0 : (int) p;
    }

    private static int sum(long x, long y) {
        return (int) ((x + y) % 65536);
    }

    private static BigInteger products(BigInteger block, List<Long> k) {
        int[] x = new int[4];
        for (int i = 0; i < 8; i++) {
            x[i / 2] = x[i / 2] * 256 + (block.shiftRight(8 * i).intValue() & 255);
        }
        for (int r = 0; r < 8; r++) {
            int a = product(x[0], k.get(6 * r));
            int b = sum(x[1], k.get(6 * r + 1));
            int c = sum(x[2], k.get(6 * r + 2));
            int d = product(x[3], k.get(6 * r + 3));
            int g = product(k.get(6 * r + 4), a ^ c);
            int h = product(k.get(6 * r + 5), sum(g, b ^ d));
            x = new int[] {a ^ h, c ^ h, b ^ sum(g, h), d ^ sum(g, h)};
        }
        x = new int[] {product(x[0], k.get(48)), sum(x[2], k.get(49)), sum(x[1], k.get(50)), product(x[3], k.get(51))};
        BigInteger made = BigInteger.ZERO;
        for (int i = 7; i >= 0; i--) {
            made = made.shiftLeft(8).add(BigInteger.valueOf(i % 2 == 0 ? x[i / 2] / 256 : x[i / 2] % 256));
        }
        return made;
    }

    /** The subkeys with which sealing is opening, as this cipher's books tell them. */
    private List<Long> turnedRound() {
        List<Long> made = new ArrayList<>();
        for (int r = 0; r <= 8; r++) {
            int from = 48 - 6 * r;
            boolean outer = r == 0 || r == 8;
            made.add(inverse(subkeys.get(from)));
            made.add((65536 - subkeys.get(from + (outer ? 1 : 2))) % 65536);
            made.add((65536 - subkeys.get(from + (outer ? 2 : 1))) % 65536);
            made.add(inverse(subkeys.get(from + 3)));
            if (r < 8) {
                made.add(subkeys.get(from - 2));
                made.add(subkeys.get(from - 1));
            }
        }
        return made;
    }

    private static long inverse(long x) {
        long found = BigInteger.valueOf(x == 0 ? 65536 : x).modInverse(BigInteger.valueOf(65537)).longValue();
        return found % 65536;
    }

    private int[] wordsOf(BigInteger block, int n) {
        int[] words = new int[n];
        for (int i = 0; i < n; i++) {
            words[i] = block.shiftRight(32 * i).intValue();
        }
        return words;
    }

    private static BigInteger ofWords(int... words) {
        BigInteger made = BigInteger.ZERO;
        for (int i = words.length - 1; i >= 0; i--) {
            made = made.multiply(WORD).add(BigInteger.valueOf(Integer.toUnsignedLong(words[i])));
        }
        return made;
    }

    private int s(int i) {
        return (int) (long) subkeys.get(i);
    }

    private BigInteger pairSealed(BigInteger block) {
        int[] w = wordsOf(block, 2);
        w[0] += s(0);
        w[1] += s(1);
        // One word at a time: word n & 1 is stirred with the other one.
        for (int n = 2; n < 2 * rounds + 2; n++) {
            int by = w[1 - n % 2];
            w[n % 2] = Integer.rotateLeft(w[n % 2] ^ by, by) + s(n);
        }
        return ofWords(w);
    }

    private BigInteger pairOpened(BigInteger block) {
        int[] w = wordsOf(block, 2);
        for (int n = 2 * rounds + 1; n >= 2; n--) {
            int by = w[1 - n % 2];
            w[n % 2] = Integer.rotateRight(w[n % 2] - s(n), by) ^ by;
        }
        return ofWords(w[0] - s(0), w[1] - s(1));
    }

    private static int stirred(int x) {
        BigInteger b = BigInteger.valueOf(Integer.toUnsignedLong(x));
        return Integer.rotateLeft(b.multiply(b.add(b).add(BigInteger.ONE)).mod(WORD).intValue(), 5);
    }

    private BigInteger quadSealed(BigInteger block) {
        int[] w = wordsOf(block, 4);
        w[1] += s(0);
        w[3] += s(1);
        for (int r = 1; r <= rounds; r++) {
            int t = stirred(w[1]);
            int u = stirred(w[3]);
            w[0] = Integer.rotateLeft(w[0] ^ t, u) + s(2 * r);
            w[2] = Integer.rotateLeft(w[2] ^ u, t) + s(2 * r + 1);
            w = new int[] {w[1], w[2], w[3], w[0]};
        }
        w[0] += s(2 * rounds + 2);
        w[2] += s(2 * rounds + 3);
        return ofWords(w);
    }

    private BigInteger quadOpened(BigInteger block) {
        int[] w = wordsOf(block, 4);
        w[0] -= s(2 * rounds + 2);
        w[2] -= s(2 * rounds + 3);
        for (int r = rounds; r >= 1; r--) {
            w = new int[] {w[3], w[0], w[1], w[2]};
            int t = stirred(w[1]);
            int u = stirred(w[3]);
            w[0] = Integer.rotateRight(w[0] - s(2 * r), u) ^ t;
            w[2] = Integer.rotateRight(w[2] - s(2 * r + 1), t) ^ u;
        }
        w[1] -= s(0);
        w[3] -= s(1);
        return ofWords(w);
    }
}
