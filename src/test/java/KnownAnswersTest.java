/**
 * Answers that do not rest on this project's reading of the document: vectors published with the three
 * ciphers (Bouncy Castle 1.72 answers them alike), and rows that Bouncy Castle and Crypto++ 8.7 made.
 */
public final class KnownAnswersTest {
    /** Kind, rounds, key, block, sealed block. */
    private static final String[][] PUBLISHED = {
        {"0", "8", "00010002000300040005000600070008", "0000000100020003", "11fbed2b01986de5"},
        {"0", "8", "80000000000000000000000000000000", "0000000000000000", "b1f5f7f87901370f"},
        {"0", "8", "00000000000000000000000000000000", "0000000000000000", "0001000100000000"},
        {"1", "12", "00000000000000000000000000000000", "0000000000000000", "21a5dbee154b8f6d"},
        {"1", "12", "915f4619be41b2516355a50110a9ce91", "21a5dbee154b8f6d", "f7c013ac5b2b8952"},
        {"1", "12", "783348e75aeb0f2fd7b169bb8dc16787", "f7c013ac5b2b8952", "2f42b3b70369fc92"},
        {"1", "12", "dc49db1375a5584f6485b413b5f12baf", "2f42b3b70369fc92", "65c178b284d197cc"},
        {"1", "12", "5269f149d41ba0152497574d7f153125", "65c178b284d197cc", "eb44e415da319824"},
        {"1", "0", "00", "0000000000000000", "7a7bba4d79111d1e"},
        {"1", "0", "00", "ffffffffffffffff", "797bba4d78111d1e"},
        {"2", "20", "00000000000000000000000000000000",
            "00000000000000000000000000000000", "8fc3a53656b1f778c129df4e9848a41e"},
        {"2", "20", "0123456789abcdef0112233445566778",
            "02132435465768798a9bacbdcedfe0f1", "524e192f4715c6231f51f6367ea43f18"},
        {"2", "20", "000000000000000000000000000000000000000000000000",
            "00000000000000000000000000000000", "6cd61bcb190b30384e8a3f168690ae82"},
        {"2", "20", "0123456789abcdef0112233445566778899aabbccddeeff01032547698badcfe",
            "02132435465768798a9bacbdcedfe0f1", "c8241816f0d7e48920ad16a1674e5d48"},
    };

    /** Rounds, start, block, sealed block, of kind 1 with the key 0102030405 in mode 1. */
    private static final String[][] PUBLISHED_CHAINS = {
        {"8", "0000000000000000", "ffffffffffffffff", "7875dbf6738c6478"},
        {"8", "7875dbf6738c6478", "0808080808080808", "8f34c3c681c99695"},
        {"12", "0000000000000000", "ffffffffffffffff", "97e0787837ed317f"},
    };

    /** Kind, rounds, bytes of key(), sealed block of data(): the edges that no published vector has. */
    private static final String[][] BLOCKS = {
        {"0", "8", "16", "c5aeaad9a25cca0a"},
        {"1", "0", "8", "209de8276ae85d54"},
        {"1", "1", "3", "91476cb0c35a86bf"},
        {"1", "1", "64", "1c760f0cc312f1ab"},
        {"1", "7", "63", "3eb359fc49c94994"},
        {"1", "16", "0", "72522837ab488283"},
        {"1", "32", "64", "5ef8bb0e1eebf7a1"},
        {"2", "1", "16", "0557428e413e31a9400187e218c5c55d"},
        {"2", "1", "32", "853ece7e14456c407ac9b8d02f68232f"},
        {"2", "7", "24", "571267f50c71c8be9570c0bdf8c930a8"},
        {"2", "20", "1", "9353a303f512d6c5d5be9cc012f75082"},
        {"2", "20", "63", "c136b3f61ae25d2281dfdf540f29ebae"},
        {"2", "20", "64", "8331270bbfc3ef456374b78bd4074a8c"},
        {"2", "32", "32", "2e20d50c67be44c67e17072bb5628bb3"},
    };

    /** Kind, rounds, bytes of key(), mode, what it makes of data(). */
    private static final String[][] ROWS = {
        {"0", "8", "16", "1", "61dad0a7a6a2eb399d3cfb22881558ae1d30d1620f9f81f5"},
        {"0", "8", "16", "3", "aaaff8f663220a11afb774759c2e8e549ba67b5a07"},
        {"1", "12", "9", "1", "677a93170e566edf2926c78baaaa671439d840d51cef46e5"},
        {"1", "12", "9", "3", "c2509b09baa92931cd58006ffbcb6aa84a72805330"},
        {"2", "20", "9", "1", "308526ddfd97c8831b99643852571e196ee96195db077e1f"
            + "00baa5db3cad11d5afe51cb0b736b11adf943bb132a870d0"},
        {"2", "20", "9", "3", "97922199c8c70b6b94333788a0addf76d700041ba1e151cf"
            + "2bc099d5053673403f760db55fe6b1b8e8"},
    };

    public static void main(String[] args) {
        for (String[] row : PUBLISHED) {
            block(Bytes.keyed(number(row[0]), number(row[1]), row[2]), row[3], row[4]);
        }
        for (String[] row : PUBLISHED_CHAINS) {
            chain(row);
        }
        for (String[] row : BLOCKS) {
            int bytes = row[3].length() / 2;
            block(Bytes.keyed(number(row[0]), number(row[1]), key(number(row[2]))), data(bytes), row[3]);
        }
        for (String[] row : ROWS) {
            row(Bytes.keyed(number(row[0]), number(row[1]), key(number(row[2]))), number(row[3]), row[4]);
        }
        Expect.finish();
    }

    private static void block(Subject x, String plain, String sealed) {
        Expect.sentence("Promise 7", "The block sealed");
        Expect.equal("seal of " + plain, told(x, x.seal(Bytes.first(plain), Bytes.second(plain), 1)), sealed);
        Expect.sentence("Promise 8", "The block opened");
        Expect.equal("open of " + sealed, told(x, x.open(Bytes.first(sealed), Bytes.second(sealed), 1)), plain);
    }

    private static String told(Subject x, long first) {
        return Bytes.hex(first) + ((x.kind() & 3) == 2 ? Bytes.hex(x.other()) : "");
    }

    private static void chain(String[] row) {
        Subject x = Bytes.keyed(1, number(row[0]), "0102030405");
        x.start(Bytes.first(row[1]), 0);
        Bytes.fed(x, row[2]);
        Expect.sentence("Promise 12", "The first long of the last block that mode 1 would make");
        Expect.equal("check()", x.check(), Bytes.first(row[3]));
        Expect.sentence("Promise 11", "The tape becomes what a mode makes of it, sealed or opened.");
        x.mode(1, true);
        Expect.equal("mode 1", Bytes.tape(x, 8), row[3]);
    }

    private static void row(Subject x, int mode, String made) {
        Expect.sentence("Promise 11", "The tape becomes what a mode makes of it, sealed or opened.");
        int bytes = made.length() / 2;
        String start = stepped(16, 0x35, 0xA7);
        x.start(Bytes.first(start), Bytes.second(start));
        Bytes.fed(x, data(bytes));
        x.mode(mode, true);
        Expect.equal("mode " + mode + " sealing, kind " + (x.kind() & 3), Bytes.tape(x, bytes), made);
        x.mode(mode, false);
        Expect.equal("mode " + mode + " opening, kind " + (x.kind() & 3), Bytes.tape(x, bytes), data(bytes));
    }

    private static String key(int bytes) {
        return stepped(bytes, 0xF1, 0x4D);
    }

    private static String data(int bytes) {
        return stepped(bytes, 0x9C, 0x3B);
    }

    private static String stepped(int bytes, int from, int step) {
        byte[] row = new byte[bytes];
        for (int i = 0; i < bytes; i++) {
            row[i] = (byte) (from + step * i);
        }
        return Bytes.text(row);
    }

    private static int number(String digits) {
        return Integer.parseInt(digits);
    }
}
