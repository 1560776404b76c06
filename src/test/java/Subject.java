/** An object of the class for 512 calls: what later ones answer is free, so that no test may make them. */
final class Subject implements Face {
    static final int MOST_CALLS = 512;

    private final RotationCiphers object = new RotationCiphers();
    private int calls = 0;

    private RotationCiphers next() {
        calls++;
        if (calls > MOST_CALLS) {
            throw new AssertionError("the test is wrong: it makes more than 512 calls");
        }
        return object;
    }

    @Override
    public int feed(int n, long bytes) {
        return next().feed(n, bytes);
    }

    @Override
    public int wipe() {
        return next().wipe();
    }

    @Override
    public long tape(int i) {
        return next().tape(i);
    }

    @Override
    public int key(int kind, int rounds) {
        return next().key(kind, rounds);
    }

    @Override
    public long subkey(int i) {
        return next().subkey(i);
    }

    @Override
    public long seal(long first, long second, int times) {
        return next().seal(first, second, times);
    }

    @Override
    public long open(long first, long second, int times) {
        return next().open(first, second, times);
    }

    @Override
    public long other() {
        return next().other();
    }

    @Override
    public void start(long first, long second) {
        next().start(first, second);
    }

    @Override
    public int mode(int mode, boolean seals) {
        return next().mode(mode, seals);
    }

    @Override
    public long check() {
        return next().check();
    }

    @Override
    public int kind() {
        return next().kind();
    }
}
