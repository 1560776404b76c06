/** Promises 1 to 4, sentence by sentence: a new object, feed, wipe, tape. */
public final class TapeTest {
    public static void main(String[] args) {
        emptyAtFirst();
        zeroKeyAtFirst();
        zeroStartAtFirst();
        feedsLowestBytes();
        feedsUpTo256();
        answersNoneBeyond();
        refusesWrongCounts();
        wipesAll();
        wipedBytesAreGone();
        readsEightBytes();
        readsZerosBeside();
        Expect.finish();
    }

    private static void emptyAtFirst() {
        Expect.sentence("Promise 1", "An empty tape");
        Expect.equal("wipe()", new Subject().wipe(), 0);
        Expect.equal("tape(0)", new Subject().tape(0), 0);
        for (int mode = 0; mode <= 3; mode++) {
            Expect.equal("mode " + mode, new Subject().mode(mode, true), 0);
        }
        Expect.equal("the first feed(1)", new Subject().feed(1, 9), 1);
    }

    private static void zeroKeyAtFirst() {
        Expect.sentence("Promise 1", "the kind 0 with a key of bytes 0");
        Subject x = new Subject();
        Expect.equal("kind()", x.kind(), 32);
        for (int i = 0; i < 52; i++) {
            Expect.equal("subkey " + i, x.subkey(i), 0);
        }
        Expect.throwing("subkey(52)", IndexOutOfBoundsException.class, () -> x.subkey(52));
        Expect.equal("seal", Bytes.hex(x.seal(0, 0, 1)), "0001000100000000");
        Expect.equal("open", Bytes.hex(x.open(Bytes.first("0001000100000000"), 0, 1)), "0000000000000000");
        Subject keyed = Bytes.keyed(0, 8, new byte[16]);
        for (long block = -3; block < 4; block++) {
            Expect.equal("seal", x.seal(block, 0, 1), keyed.seal(block, 0, 1));
            Expect.equal("open", x.open(block, 0, 1), keyed.open(block, 0, 1));
        }
        Expect.equal("a new object", State.of(new Subject()), State.of(Bytes.keyed(0, 8, new byte[16])));
    }

    private static void zeroStartAtFirst() {
        Expect.sentence("Promise 1", "the start is bytes 0");
        Expect.equal("check()", new Subject().check(), 0);
        Subject x = new Subject();
        x.start(0, 0);
        Expect.equal("a new object", State.of(new Subject()), State.of(x));
        Subject wide = new Subject();
        wide.key(2, 3);
        wide.feed(8, 0);
        wide.feed(8, 0);
        wide.mode(1, true);
        Expect.equal("the start's first long", wide.open(wide.tape(0), wide.tape(8), 1), 0);
        Expect.equal("the start's second long", wide.other(), 0);
    }

    private static void feedsLowestBytes() {
        Expect.sentence("Promise 2", "The n lowest bytes of a long, the lowest first, come behind the tape.");
        Subject x = new Subject();
        int total = 0;
        for (int n = 1; n <= 8; n++) {
            total += n;
            Expect.equal("feed(" + n + ")", x.feed(n, 0x8877665544332211L), total);
        }
        Expect.equal("the tape", Bytes.tape(x, 37), "11" + "1122" + "112233" + "11223344" + "1122334455"
                + "112233445566" + "11223344556677" + "1122334455667788" + "00");
        for (int n = 1; n <= 8; n++) {
            Subject y = new Subject();
            y.feed(n, -1);
            Expect.equal("feed(" + n + ", -1)", y.tape(0), -1L >>> (64 - 8 * n));
            y.feed(n, 0);
            y.feed(1, 0x5A);
            Expect.equal("the byte behind feed(" + n + ", 0)", y.tape(2 * n), 0x5A);
        }
    }

    private static void feedsUpTo256() {
        Expect.sentence("Promise 2", "Answers how many it has");
        for (int n = 1; n <= 8; n++) {
            Subject x = new Subject();
            for (int had = 0; had + n <= 256; had += n) {
                Expect.equal("feed(" + n + ") behind " + had, x.feed(n, had), had + n);
            }
        }
        Expect.sentence("Terms", "THE TAPE has up to 256 bytes.");
        byte[] row = Bytes.some(256);
        Subject x = Bytes.fed(new Subject(), row);
        Expect.equal("256 bytes", Bytes.tape(x, 256), Bytes.text(row));
        Expect.equal("wipe() of 256 bytes", x.wipe(), 256);
    }

    /** Each n with each room up to nine bytes: the last that fits, the first that does not. */
    private static void answersNoneBeyond() {
        Expect.sentence("Promise 2", "NONE when there would be more than 256.");
        for (int room = 0; room <= 9; room++) {
            byte[] row = Bytes.some(256 - room);
            for (int n = 1; n <= 8; n++) {
                int count = n;
                String what = "feed(" + n + ") with room for " + room;
                if (n <= room) {
                    Subject x = Bytes.fed(new Subject(), row);
                    Expect.equal(what, x.feed(n, 0x0807060504030201L), row.length + n);
                    Expect.equal("the byte of " + what, x.tape(row.length + n - 1), n);
                } else {
                    State.keptByNone(what, () -> Bytes.fed(new Subject(), row), x -> x.feed(count, -1));
                }
            }
        }
        Subject x = Bytes.fed(new Subject(), Bytes.some(252));
        x.feed(5, -1);
        Expect.equal("feed(4) behind a feed(5) that did not fit", x.feed(4, 0x04030201), 256);
        Expect.equal("its bytes", x.tape(252), 0x04030201);
    }

    private static void refusesWrongCounts() {
        Expect.sentence("Promise 2", "IllegalArgumentException: n is not 1 to 8.");
        for (int n : new int[] {0, 9, -1, -8, 16, 256, 257, Integer.MIN_VALUE, Integer.MAX_VALUE}) {
            // With a full tape the exception comes before NONE: the count is wrong whatever fits.
            for (int length : new int[] {0, 3, 248, 255, 256}) {
                State.keptBy("feed(" + n + ") behind " + length, IllegalArgumentException.class,
                        () -> Bytes.fed(new Subject(), Bytes.some(length)), x -> x.feed(n, -1));
            }
        }
        Expect.equal("feed(1)", new Subject().feed(1, -1), 1);
        Expect.equal("feed(8)", new Subject().feed(8, -1), 8);
    }

    private static void wipesAll() {
        for (int length : new int[] {0, 1, 8, 13, 255, 256}) {
            Subject x = Bytes.fed(new Subject(), Bytes.some(length));
            Expect.sentence("Promise 3", "Answers how many bytes it had.");
            Expect.equal("wipe() of " + length, x.wipe(), length);
            Expect.equal("wipe() again", x.wipe(), 0);
            Expect.sentence("Promise 3", "The tape is empty then.");
            Expect.equal("a wiped object", State.of(x), State.of(new Subject()));
        }
    }

    /** What was on the tape before must not come again where a shorter row is filled up with bytes 0. */
    private static void wipedBytesAreGone() {
        Expect.sentence("Promise 3", "The tape is empty then.");
        for (int kind = 1; kind <= 2; kind++) {
            for (int length : new int[] {1, 3, 9, 17}) {
                Subject used = Bytes.fed(Bytes.keyed(kind, 4, "01"), Bytes.some(256));
                used.wipe();
                Bytes.fed(used, Bytes.some(length));
                Subject fresh = Bytes.fed(Bytes.keyed(kind, 4, "01"), Bytes.some(length));
                Expect.equal(length + " bytes behind 256 wiped ones", State.of(used), State.of(fresh));
            }
            Subject used = Bytes.fed(new Subject(), Bytes.some(256));
            used.wipe();
            used.feed(5, 0x0504030201L);
            used.key(kind, 4);
            Expect.equal("a key of 5 bytes behind 256 wiped ones", State.of(used),
                    State.of(Bytes.keyed(kind, 4, "0102030405")));
        }
    }

    private static void readsEightBytes() {
        Expect.sentence("Promise 4", "Eight bytes of the tape from byte i on, the first one the lowest");
        byte[] row = Bytes.some(256);
        Subject x = Bytes.fed(new Subject(), row);
        for (int i = 0; i <= 248; i++) {
            Expect.equal("tape(" + i + ")", x.tape(i), Bytes.longAt(row, i));
        }
        Subject y = new Subject();
        y.feed(8, 0xF8E7D6C5B4A39281L);
        Expect.equal("tape(0)", y.tape(0), 0xF8E7D6C5B4A39281L);
    }

    private static void readsZerosBeside() {
        Expect.sentence("Promise 4", "0 where there are none.");
        Subject x = new Subject();
        x.feed(8, 0xF8E7D6C5B4A39281L);
        x.feed(2, 0xFFEE);
        Expect.equal("tape(2)", x.tape(2), 0xFFEEF8E7D6C5B4A3L);
        Expect.equal("tape(3)", x.tape(3), 0x00FFEEF8E7D6C5B4L);
        Expect.equal("tape(9)", x.tape(9), 0xFF);
        Expect.equal("tape(10)", x.tape(10), 0);
        Expect.equal("tape(-1)", x.tape(-1), 0xE7D6C5B4A3928100L);
        Expect.equal("tape(-7)", x.tape(-7), 0x8100000000000000L);
        Expect.equal("tape(-8)", x.tape(-8), 0);
        Subject full = Bytes.fed(new Subject(), Bytes.some(256));
        Expect.equal("tape(249) of a full tape", full.tape(249), full.tape(248) >>> 8);
        Expect.equal("tape(255) of a full tape", full.tape(255), full.tape(248) >>> 56);
        for (int far : new int[] {256, 257, 1000, 65536, Integer.MAX_VALUE - 8, Integer.MAX_VALUE - 7,
            Integer.MAX_VALUE - 1, Integer.MAX_VALUE, Integer.MIN_VALUE, Integer.MIN_VALUE + 255, -256}) {
            Expect.equal("tape(" + far + ") of a full tape", full.tape(far), 0);
            Expect.equal("tape(" + far + ") of an empty tape", new Subject().tape(far), 0);
        }
        Expect.equal("tape(0) of an empty tape", new Subject().tape(0), 0);
    }
}
