/** Promises 7, 8 and 9: seal, open, other; with published vectors, written down from memory. */
public final class BlockTest {
    /** Kind, rounds, key, block, sealed block. */
    private static final String[][] VECTORS = {
        {"0", "8", "00010002000300040005000600070008", "0000000100020003", "11fbed2b01986de5"},
        {"0", "8", "80000000000000000000000000000000", "0000000000000000", "b1f5f7f87901370f"},
        {"0", "8", "00000000000000000000000000000000", "0000000000000000", "0001000100000000"},
        {"1", "12", "00000000000000000000000000000000", "0000000000000000", "21a5dbee154b8f6d"},
        {"1", "12", "915f4619be41b2516355a50110a9ce91", "21a5dbee154b8f6d", "f7c013ac5b2b8952"},
        {"1", "12", "783348e75aeb0f2fd7b169bb8dc16787", "f7c013ac5b2b8952", "2f42b3b70369fc92"},
        {"1", "12", "dc49db1375a5584f6485b413b5f12baf", "2f42b3b70369fc92", "65c178b284d197cc"},
        {"1", "12", "5269f149d41ba0152497574d7f153125", "65c178b284d197cc", "eb44e415da319824"},
        {"1", "0", "00", "0000000000000000", "7a7bba4d79111d1e"},
        {"1", "0", "00", "ffffffffffffffff", "797bba4d78111d1e"},
        {"2", "20", "00000000000000000000000000000000",
            "00000000000000000000000000000000", "8fc3a53656b1f778c129df4e9848a41e"},
        {"2", "20", "0123456789abcdef0112233445566778",
            "02132435465768798a9bacbdcedfe0f1", "524e192f4715c6231f51f6367ea43f18"},
        {"2", "20", "000000000000000000000000000000000000000000000000",
            "00000000000000000000000000000000", "6cd61bcb190b30384e8a3f168690ae82"},
        {"2", "20", "0123456789abcdef0112233445566778899aabbccddeeff01032547698badcfe",
            "02132435465768798a9bacbdcedfe0f1", "c8241816f0d7e48920ad16a1674e5d48"},
    };

    public static void main(String[] args) {
        for (String[] vector : VECTORS) {
            published(vector);
        }
        for (int kind = 0; kind <= 2; kind++) {
            thereAndBack(kind);
            manyTimes(kind);
            wrongTimes(kind);
        }
        everyProduct();
        othersOfShortBlocks();
        othersOfWideBlocks();
        Expect.finish();
    }

    private static void published(String[] vector) {
        RotationCiphers x = Bytes.keyed(Integer.parseInt(vector[0]), Integer.parseInt(vector[1]), vector[2]);
        boolean wide = vector[3].length() == 32;
        String name = " with kind " + vector[0] + " and key " + vector[2];
        String sealed = Bytes.hex(x.seal(Bytes.first(vector[3]), Bytes.second(vector[3]), 1));
        Expect.equal("seal" + name, sealed + (wide ? Bytes.hex(x.other()) : ""), vector[4]);
        String opened = Bytes.hex(x.open(Bytes.first(vector[4]), Bytes.second(vector[4]), 1));
        Expect.equal("open" + name, opened + (wide ? Bytes.hex(x.other()) : ""), vector[3]);
    }

    private static RotationCiphers some(int kind, int rounds) {
        return Bytes.keyed(kind, kind == 0 ? 8 : rounds, "00ff0100807f00000000000100fffe03");
    }

    private static void thereAndBack(int kind) {
        for (int rounds = 0; rounds <= 32; rounds++) {
            RotationCiphers x = some(kind, rounds);
            for (long seed = -20; seed < 20; seed++) {
                long first = seed * 0x0123456789ABCDEFL;
                long second = kind == 2 ? ~first * 77 : 0;
                long sealed = x.seal(first, second, 1);
                Expect.equal("open of seal", x.open(sealed, x.other(), 1), first);
                Expect.equal("other() of open of seal", x.other(), second);
                long opened = x.open(first, second, 1);
                Expect.equal("seal of open", x.seal(opened, x.other(), 1), first);
                Expect.equal("other() of seal of open", x.other(), second);
            }
        }
    }

    private static void manyTimes(int kind) {
        RotationCiphers x = some(kind, 9);
        long first = 5;
        long second = kind == 2 ? 6 : 0;
        for (int i = 0; i < 1000; i++) {
            first = x.seal(first, second, 1);
            second = x.other();
        }
        Expect.equal("seal a thousand times", x.seal(5, 6, 1000), first);
        Expect.equal("other() of it", x.other(), second);
        Expect.equal("open a thousand times", x.open(first, second, 1000), 5);
        Expect.equal("other() of it", x.other(), kind == 2 ? 6 : 0);
        Expect.equal("seal no time", x.seal(-9, -8, 0), -9);
        Expect.equal("other() of it", x.other(), kind == 2 ? -8 : 0);
        Expect.equal("open no time", x.open(-7, -6, 0), -7);
        Expect.equal("other() of it", x.other(), kind == 2 ? -6 : 0);
    }

    private static void wrongTimes(int kind) {
        RotationCiphers x = some(kind, 9);
        x.seal(1, 2, 3);
        for (int times : new int[] {-1, 1001, Integer.MIN_VALUE, Integer.MAX_VALUE}) {
            State.keptBy("seal " + times, IllegalArgumentException.class, x, () -> x.seal(7, 8, times));
            State.keptBy("open " + times, IllegalArgumentException.class, x, () -> x.open(7, 8, times));
        }
    }

    /** Each word as subkey 0, so that each has an inverse that fits: 0, as 65536, too. */
    private static void everyProduct() {
        RotationCiphers x = new RotationCiphers();
        int lost = 0;
        for (int word = 0; word < 65536; word++) {
            x.feed(2, word);
            x.feed(8, 0x0807060504030201L);
            x.feed(6, 0x0E0D0C0B0A09L);
            x.key(0, 8);
            lost += x.open(x.seal(word, 0, 1), 0, 1) == word ? 0 : 1;
        }
        Expect.equal("blocks lost with some subkey 0", lost, 0);
    }

    private static void othersOfShortBlocks() {
        RotationCiphers x = some(0, 8);
        Expect.equal("the second long does not count", x.seal(5, 99, 2), x.seal(5, 0, 2));
        Expect.equal("other() with kind 0", x.other(), 0);
        x.open(5, 99, 2);
        Expect.equal("other() with kind 0", x.other(), 0);
        x.key(1, 4);
        Expect.equal("the second long does not count", x.open(5, 99, 2), x.open(5, 0, 2));
        Expect.equal("other() with kind 1", x.other(), 0);
        x.seal(5, 99, 0);
        Expect.equal("other() with kind 1", x.other(), 0);
    }

    private static void othersOfWideBlocks() {
        RotationCiphers x = some(2, 20);
        Expect.equal("other() before", x.other(), 0);
        x.seal(1, 2, 1);
        long second = x.other();
        Expect.isTrue("other() is the second long", second != 0);
        Expect.equal("other() again", x.other(), second);
        x.start(3, 4);
        x.feed(8, 5);
        x.mode(2, true);
        x.mode(3, false);
        x.check();
        x.wipe();
        Expect.equal("other() behind modes", x.other(), second);
        x.key(1, 3);
        Expect.equal("other() behind key()", x.other(), second);
        x.seal(1, 2, 1);
        Expect.equal("other() behind seal() with 8 bytes", x.other(), 0);
    }
}
