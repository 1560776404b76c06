/** Promises 1 to 4: a new object, feed, wipe, tape. */
public final class TapeTest {
    public static void main(String[] args) {
        newObject();
        feeding();
        feedingTooMuch();
        feedingWrongly();
        wiping();
        reading();
        Expect.finish();
    }

    private static void newObject() {
        RotationCiphers x = new RotationCiphers();
        Expect.equal("kind() of a new object", x.kind(), 32);
        Expect.equal("other() of a new object", x.other(), 0);
        Expect.equal("check() of a new object", x.check(), 0);
        for (int i = 0; i < 52; i++) {
            Expect.equal("a new object's subkey " + i, x.subkey(i), 0);
        }
        State.keptBy("subkey(52) of a new object", IndexOutOfBoundsException.class, x, () -> x.subkey(52));
        Expect.equal("wipe() of a new object", x.wipe(), 0);
        Expect.equal("a new object's tape", x.tape(0), 0);
        Expect.equal("a new object's seal", Bytes.hex(x.seal(0, 0, 1)), "0001000100000000");
        Expect.equal("a new object's open", Bytes.hex(x.open(Bytes.first("0001000100000000"), 0, 1)), "0000000000000000");
        RotationCiphers y = Bytes.keyed(0, 8, "00000000000000000000000000000000");
        for (long block = -3; block < 4; block++) {
            Expect.equal("a new object's seal", x.seal(block, 0, 1), y.seal(block, 0, 1));
            Expect.equal("a new object's open", x.open(block, 0, 1), y.open(block, 0, 1));
        }
        startOfNewObject();
    }

    private static void startOfNewObject() {
        RotationCiphers x = new RotationCiphers();
        x.key(2, 3);
        RotationCiphers y = new RotationCiphers();
        y.start(0, 0);
        y.key(2, 3);
        Bytes.feed(x, "0102030405060708090a");
        Bytes.feed(y, "0102030405060708090a");
        Expect.equal("check() with a new object's start", x.check(), y.check());
    }

    private static void feeding() {
        RotationCiphers x = new RotationCiphers();
        int total = 0;
        for (int n = 1; n <= 8; n++) {
            total += n;
            Expect.equal("feed(" + n + ")", x.feed(n, 0x8877665544332211L), total);
        }
        Expect.equal("the tape", Bytes.tape(x, 37), "11" + "1122" + "112233" + "11223344" + "1122334455"
                + "112233445566" + "11223344556677" + "1122334455667788" + "00");
    }

    private static void feedingTooMuch() {
        RotationCiphers x = new RotationCiphers();
        for (int i = 1; i <= 31; i++) {
            Expect.equal("feed up to " + 8 * i, x.feed(8, i), 8 * i);
        }
        Expect.equal("feed up to 252", x.feed(4, -1), 252);
        for (int n = 5; n <= 8; n++) {
            Expect.equal("feed over the end", x.feed(n, -1), RotationCiphers.NONE);
        }
        Expect.equal("the end of the tape", x.tape(248), 0xFFFFFFFFL);
        Expect.equal("feed up to the end", x.feed(4, 0x04030201), 256);
        for (int n = 1; n <= 8; n++) {
            Expect.equal("feed of a full tape", x.feed(n, 7), RotationCiphers.NONE);
        }
        Expect.equal("the end of a full tape", x.tape(248), 0x04030201FFFFFFFFL);
        State.keptBy("feed(0) of a full tape", IllegalArgumentException.class, x, () -> x.feed(0, 7));
        State.keptBy("feed(9) of a full tape", IllegalArgumentException.class, x, () -> x.feed(9, 7));
        Expect.equal("wipe() of a full tape", x.wipe(), 256);
    }

    private static void feedingWrongly() {
        RotationCiphers x = new RotationCiphers();
        x.feed(3, 0x030201);
        for (int n : new int[] {0, -1, 9, 256, Integer.MIN_VALUE, Integer.MAX_VALUE}) {
            State.keptBy("feed(" + n + ")", IllegalArgumentException.class, x, () -> x.feed(n, -1));
        }
        Expect.equal("feed() behind wrong ones", x.feed(1, 4), 4);
    }

    private static void wiping() {
        RotationCiphers x = new RotationCiphers();
        x.feed(8, -1);
        x.feed(5, -1);
        Expect.equal("wipe()", x.wipe(), 13);
        Expect.equal("wipe() again", x.wipe(), 0);
        Expect.equal("a wiped tape", x.tape(0), 0);
        Expect.equal("feed() behind wipe()", x.feed(1, 9), 1);
        Expect.equal("a wiped tape, fed anew", x.tape(0), 9);
    }

    private static void reading() {
        RotationCiphers x = new RotationCiphers();
        x.feed(8, 0xF8E7D6C5B4A39281L);
        x.feed(2, 0xFFEE);
        Expect.equal("tape(0)", x.tape(0), 0xF8E7D6C5B4A39281L);
        Expect.equal("tape(1)", x.tape(1), 0xEEF8E7D6C5B4A392L);
        Expect.equal("tape(3)", x.tape(3), 0x00FFEEF8E7D6C5B4L);
        Expect.equal("tape(9)", x.tape(9), 0xFF);
        Expect.equal("tape(10)", x.tape(10), 0);
        Expect.equal("tape(-1)", x.tape(-1), 0xE7D6C5B4A3928100L);
        Expect.equal("tape(-7)", x.tape(-7), 0x8100000000000000L);
        Expect.equal("tape(-8)", x.tape(-8), 0);
        for (int far : new int[] {256, 1000, Integer.MAX_VALUE - 7, Integer.MAX_VALUE, Integer.MIN_VALUE}) {
            Expect.equal("tape(" + far + ")", x.tape(far), 0);
        }
    }
}
