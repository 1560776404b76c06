/** Many runs of calls against DocumentModel, each the same whenever it runs: the numbers come from a formula. */
public final class RandomRunsTest {
    private static final int RUNS = 1500;

    private long seed;

    private RandomRunsTest(long seed) {
        this.seed = seed;
    }

    public static void main(String[] args) {
        for (int run = 0; run < RUNS; run++) {
            new RandomRunsTest(run).compare();
        }
        Expect.finish();
    }

    private void compare() {
        Subject x = new Subject();
        DocumentModel model = new DocumentModel();
        long name = seed;
        for (int call = 0; call < Subject.MOST_CALLS; call++) {
            int what = upTo(16);
            long p = block();
            long q = block();
            int small = number();
            int other = number();
            boolean yes = upTo(2) == 0;
            String got = answer(() -> call(x, what, p, q, small, other, yes));
            String want = answer(() -> call(model, what, p, q, small, other, yes));
            Expect.equal("run " + name + ", call " + call + ", method " + what, got, want);
        }
    }

    private interface Call {
        long run();
    }

    private static String answer(Call call) {
        try {
            return Long.toString(call.run());
        } catch (RuntimeException e) {
            return e.getClass().getName();
        }
    }

    private static long call(Face x, int what, long p, long q, int small, int other, boolean yes) {
        switch (what) {
            case 0: return x.wipe();
            case 1: return x.tape(other);
            case 2: return x.key(small & 3, other);
            case 3: return x.key(0, 8);
            case 4: return x.key(1 + (small & 1), other & 31);
            case 5: return x.subkey(other);
            case 6: return x.seal(p, q, small);
            case 7: return x.open(p, q, small);
            case 8: return x.other();
            case 9: x.start(p, q); return 0;
            case 10: return x.mode(small, yes);
            case 11: return x.check();
            case 12: return x.kind();
            default: return x.feed(yes ? 8 : small, p);
        }
    }

    private int upTo(int bound) {
        seed = seed * 6364136223846793005L + 1442695040888963407L;
        return (int) Long.remainderUnsigned(seed >>> 33, bound);
    }

    /** Blocks at the ends of the numbers come often: counts and products have their edges there. */
    private long block() {
        switch (upTo(4)) {
            case 0: return upTo(3) - 2;
            case 1: return (long) upTo(256) << (8 * upTo(8));
            default: return (long) upTo(Integer.MAX_VALUE) << 33 ^ (long) upTo(Integer.MAX_VALUE) << 11 ^ upTo(2048);
        }
    }

    private int number() {
        switch (upTo(4)) {
            case 0: return upTo(80) - 8;
            case 1: return upTo(5);
            case 2: return upTo(9);
            default: return upTo(40);
        }
    }
}
