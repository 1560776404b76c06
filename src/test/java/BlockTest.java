/** Promises 7, 8 and 9, sentence by sentence: seal, open, other. */
public final class BlockTest {
    public static void main(String[] args) {
        for (int kind = 0; kind <= 2; kind++) {
            thereAndBack(kind);
            noTime(kind);
            manyTimes(kind);
            refusesTimes(kind);
            otherBefore(kind);
        }
        dearestRun();
        othersOfShortBlocks();
        othersOfWideBlocks();
        Expect.finish();
    }

    private static Subject some(int kind, int rounds) {
        return Bytes.keyed(kind, kind == 0 ? 8 : rounds, "00ff0100807f00000000000100fffe03");
    }

    private static void thereAndBack(int kind) {
        Expect.sentence("Terms", "To OPEN a block is to find the one that is SEALED to it.");
        for (int rounds = 0; rounds <= 32; rounds++) {
            Subject x = some(kind, rounds);
            for (long seed = -20; seed < 20; seed++) {
                long first = seed * 0x0123456789ABCDEFL;
                long second = kind == 2 ? ~first * 77 : 0;
                long sealed = x.seal(first, second, 1);
                Expect.equal("open of seal", x.open(sealed, x.other(), 1), first);
                Expect.equal("other() of open of seal", x.other(), second);
                long opened = x.open(first, second, 1);
                Expect.equal("seal of open", x.seal(opened, x.other(), 1), first);
                Expect.equal("other() of seal of open", x.other(), second);
            }
        }
    }

    private static void noTime(int kind) {
        Expect.sentence("Promises 7 and 8", "and so many times in all");
        Subject x = some(kind, 9);
        for (long first : new long[] {0, -9, Long.MIN_VALUE, Long.MAX_VALUE}) {
            for (long second : new long[] {0, -8, Long.MIN_VALUE, Long.MAX_VALUE}) {
                Expect.equal("seal no time", x.seal(first, second, 0), first);
                Expect.equal("other() of seal no time", x.other(), kind == 2 ? second : 0);
                Expect.equal("open no time", x.open(first, second, 0), first);
                Expect.equal("other() of open no time", x.other(), kind == 2 ? second : 0);
            }
        }
    }

    /** Each number up to 1000 against one time more than the number before it. */
    private static void manyTimes(int kind) {
        Expect.sentence("Promises 7 and 8", "and so many times in all");
        long[] sealed = {5, kind == 2 ? 6 : 0};
        long[] opened = sealed.clone();
        for (int times = 1; times <= 1000; times++) {
            Subject x = some(kind, 9);
            sealed[0] = x.seal(sealed[0], sealed[1], 1);
            sealed[1] = x.other();
            opened[0] = x.open(opened[0], opened[1], 1);
            opened[1] = x.other();
            if (times < 5 || times % 100 > 97 || times % 100 == 0) {
                Expect.equal("seal " + times + " times", x.seal(5, 6, times), sealed[0]);
                Expect.equal("other() of seal " + times + " times", x.other(), sealed[1]);
                Expect.equal("open " + times + " times", x.open(5, 6, times), opened[0]);
                Expect.equal("other() of open " + times + " times", x.other(), opened[1]);
            }
        }
        Subject x = some(kind, 9);
        Expect.equal("open of seal, a thousand times", x.open(sealed[0], sealed[1], 1000), 5);
        Expect.equal("other() of it", x.other(), kind == 2 ? 6 : 0);
    }

    private static Subject used(int kind) {
        Subject x = some(kind, 9);
        x.start(3, 4);
        x.seal(1, 2, 3);
        return Bytes.fed(x, Bytes.some(21));
    }

    private static void refusesTimes(int kind) {
        for (int times : new int[] {-1, 1001, -1000, 1002, 65536, Integer.MIN_VALUE, Integer.MAX_VALUE}) {
            Expect.sentence("Promise 7", "IllegalArgumentException: times is not 0 to 1000.");
            State.keptBy("seal " + times, IllegalArgumentException.class, () -> used(kind), x -> x.seal(7, 8, times));
            Expect.sentence("Promise 8", "IllegalArgumentException: times is not 0 to 1000.");
            State.keptBy("open " + times, IllegalArgumentException.class, () -> used(kind), x -> x.open(7, 8, times));
        }
    }

    private static void otherBefore(int kind) {
        Expect.sentence("Promise 9", "0 before");
        Expect.equal("other() of a new object", new Subject().other(), 0);
        Subject x = some(kind, 9);
        Expect.equal("other() behind key()", x.other(), 0);
        x.start(1, 2);
        Bytes.fed(x, Bytes.some(32));
        for (int mode = 0; mode <= 3; mode++) {
            x.mode(mode, true);
            x.mode(mode, false);
        }
        x.check();
        Expect.equal("other() behind modes and check()", x.other(), 0);
        Expect.throwing("seal", IllegalArgumentException.class, () -> x.seal(1, 2, -1));
        Expect.throwing("open", IllegalArgumentException.class, () -> x.open(1, 2, 1001));
        Expect.equal("other() behind calls that throw", x.other(), 0);
    }

    /** The most that 512 calls can ask for: 255 times a thousand there, as many back, and the last one. */
    private static void dearestRun() {
        Expect.sentence("What it is", "An object is used for at most 512 calls after it has been made");
        Subject x = new Subject();
        x.key(1, 32);
        long block = 1;
        for (int i = 0; i < 255; i++) {
            block = x.seal(block, 0, 1000);
        }
        Expect.isTrue("the block is another one on the way", block != 1);
        for (int i = 0; i < 255; i++) {
            block = x.open(block, 0, 1000);
        }
        Expect.equal("the 511th call", block, 1);
        Expect.equal("the 512th call", x.kind(), 1 + 4 * 32);
    }

    private static void othersOfShortBlocks() {
        Expect.sentence("Promise 9", "and with blocks of 8 bytes");
        for (int kind = 0; kind <= 1; kind++) {
            Subject x = some(kind, 4);
            for (int times : new int[] {0, 1, 2, 1000}) {
                Expect.equal("seal without the second long", x.seal(5, 99, times), x.seal(5, 0, times));
                x.seal(5, 99, times);
                Expect.equal("other() of seal with kind " + kind, x.other(), 0);
                Expect.equal("open without the second long", x.open(5, 99, times), x.open(5, 0, times));
                x.open(5, 99, times);
                Expect.equal("other() of open with kind " + kind, x.other(), 0);
            }
        }
    }

    private static void othersOfWideBlocks() {
        Expect.sentence("Promise 9", "The second long of what the last seal() or open() answered");
        Subject x = some(2, 20);
        x.seal(1, 2, 1);
        long second = x.other();
        Expect.isTrue("other() is not 0 here", second != 0);
        Expect.equal("other() again", x.other(), second);
        Expect.throwing("seal", IllegalArgumentException.class, () -> x.seal(5, 6, 1001));
        Expect.throwing("open", IllegalArgumentException.class, () -> x.open(5, 6, -1));
        Expect.equal("other() behind calls that throw", x.other(), second);
        x.start(3, 4);
        x.feed(8, 5);
        x.mode(2, true);
        x.mode(3, false);
        x.check();
        x.wipe();
        x.tape(0);
        x.subkey(0);
        x.kind();
        Expect.equal("other() behind other calls", x.other(), second);
        x.key(1, 3);
        Expect.equal("other() behind key()", x.other(), second);
        x.seal(1, 2, 1);
        Expect.equal("other() behind seal() with 8 bytes", x.other(), 0);
    }
}
