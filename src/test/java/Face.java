/** The document's methods, so that a test can ask the class and DocumentModel alike. */
interface Face {
    int feed(int n, long bytes);

    int wipe();

    long tape(int i);

    int key(int kind, int rounds);

    long subkey(int i);

    long seal(long first, long second, int times);

    long open(long first, long second, int times);

    long other();

    void start(long first, long second);

    int mode(int mode, boolean seals);

    long check();

    int kind();
}
