import java.util.ArrayList;
import java.util.List;
import java.util.function.Consumer;
import java.util.function.ToLongFunction;

/**
 * The last sentence of 'Terms': every method with arguments at and beyond its edges, on objects in
 * many states. What is due is asked of DocumentModel; a refused call is followed by the whole state.
 */
public final class RefusedTest {
    private static final List<Consumer<Face>> HISTORIES = new ArrayList<>();
    private static final List<String> NAMES = new ArrayList<>();
    private static final List<ToLongFunction<Face>> CALLS = new ArrayList<>();

    public static void main(String[] args) {
        makeHistories();
        makeCalls();
        for (int history = 0; history < HISTORIES.size(); history++) {
            for (int call = 0; call < CALLS.size(); call++) {
                compare(history, call);
            }
        }
        Expect.finish();
    }

    private static void makeHistories() {
        for (int length : new int[] {0, 1, 8, 15, 16, 17, 64, 65, 248, 255, 256}) {
            HISTORIES.add(x -> Bytes.fed(x, Bytes.some(length)));
            for (int kind = 0; kind <= 2; kind++) {
                int k = kind;
                HISTORIES.add(x -> use(x, k, length));
            }
        }
    }

    /** All parts of the object hold something that a call could spoil. */
    private static void use(Face x, int kind, int length) {
        Bytes.fed(x, Bytes.some(16)).key(kind, 8);
        x.start(-1, -2);
        x.seal(3, 4, 1);
        Bytes.fed(x, Bytes.some(length));
    }

    private static void add(String name, ToLongFunction<Face> call) {
        NAMES.add(name);
        CALLS.add(call);
    }

    private static void makeCalls() {
        for (int n : new int[] {Integer.MIN_VALUE, -1, 0, 1, 2, 7, 8, 9, Integer.MAX_VALUE}) {
            add("feed(" + n + ")", x -> x.feed(n, 0x8070605040302010L));
        }
        for (int kind = -1; kind <= 3; kind++) {
            int k = kind;
            for (int rounds : new int[] {-1, 0, 7, 8, 9, 32, 33}) {
                add("key(" + k + ", " + rounds + ")", x -> x.key(k, rounds));
            }
        }
        for (int i : new int[] {-1, 0, 17, 18, 19, 20, 51, 52, 67, 68, Integer.MIN_VALUE, Integer.MAX_VALUE}) {
            add("subkey(" + i + ")", x -> x.subkey(i));
        }
        for (int times : new int[] {-1, 0, 1, 1001, Integer.MIN_VALUE, Integer.MAX_VALUE}) {
            add("seal " + times, x -> x.seal(5, 6, times));
            add("open " + times, x -> x.open(5, 6, times));
        }
        for (int mode : new int[] {Integer.MIN_VALUE, -1, 0, 1, 2, 3, 4, Integer.MAX_VALUE}) {
            add("mode(" + mode + ", true)", x -> x.mode(mode, true));
            add("mode(" + mode + ", false)", x -> x.mode(mode, false));
        }
        add("wipe()", Face::wipe);
        add("check()", Face::check);
        add("tape(-3)", x -> x.tape(-3));
    }

    private static String answer(Face x, ToLongFunction<Face> call) {
        try {
            return Long.toString(call.applyAsLong(x));
        } catch (RuntimeException e) {
            return e.getClass().getSimpleName();
        }
    }

    private static void compare(int history, int call) {
        Subject x = new Subject();
        Subject twin = new Subject();
        DocumentModel model = new DocumentModel();
        HISTORIES.get(history).accept(x);
        HISTORIES.get(history).accept(twin);
        HISTORIES.get(history).accept(model);
        String want = answer(model, CALLS.get(call));
        String what = NAMES.get(call) + " behind history " + history;
        Expect.sentence("Terms", "Methods throw what their comments name, the one named first when several would do");
        Expect.equal(what, answer(x, CALLS.get(call)), want);
        boolean refused = want.endsWith("Exception") || NAMES.get(call).startsWith("feed") && want.equals("-1");
        Expect.sentence("Terms", "a call that throws, or answers NONE, changes nothing");
        Expect.equal("the state behind " + what, State.of(x), State.of(refused ? twin : model));
    }
}
