import java.util.function.Consumer;
import java.util.function.Supplier;
import java.util.function.ToLongFunction;

/** All that can be found out of an object, as one text: alike for two objects that nothing tells apart. */
final class State {
    private State() {
    }

    /** Some 130 calls, which leave the object changed: none comes behind them. */
    static String of(Face x) {
        StringBuilder text = new StringBuilder();
        text.append("kind ").append(x.kind()).append(" other ").append(x.other());
        text.append(" check ").append(x.check()).append(" tape");
        for (int i = 0; i <= 256; i += 8) {
            text.append(' ').append(Long.toHexString(x.tape(i)));
        }
        text.append(" subkeys");
        for (int i = 0; i <= 68; i++) {
            text.append(' ').append(subkey(x, i));
        }
        text.append(" sealed ").append(x.seal(3, 5, 1)).append(' ').append(x.other());
        text.append(" opened ").append(x.open(3, 5, 1)).append(' ').append(x.other());
        text.append(" blocks ").append(x.mode(3, true)).append(" made ").append(x.check());
        text.append(" grows to ").append(x.feed(1, 77)).append(" had ").append(x.wipe());
        text.append(" start ").append(startOf(x));
        return text.toString();
    }

    private static String subkey(Face x, int i) {
        try {
            return Long.toHexString(x.subkey(i));
        } catch (IndexOutOfBoundsException e) {
            return "none";
        }
    }

    /** With kind 2 and no rounds a sealed block tells both longs of the start that it was mixed with. */
    private static String startOf(Face x) {
        x.wipe();
        x.key(2, 0);
        x.feed(8, 0);
        x.feed(8, 0);
        x.mode(1, true);
        return x.open(x.tape(0), x.tape(8), 1) + " " + x.other();
    }

    /** Two objects with one history: one gets the call, which throws what is due; then both are alike. */
    static void keptBy(String what, Class<? extends RuntimeException> due,
            Supplier<? extends Face> history, Consumer<Face> call) {
        Face x = history.get();
        Expect.throwing(what, due, () -> call.accept(x));
        Expect.equal("the state behind " + what, of(x), of(history.get()));
    }

    static void keptByNone(String what, Supplier<? extends Face> history, ToLongFunction<Face> call) {
        Face x = history.get();
        Expect.equal(what, call.applyAsLong(x), RotationCiphers.NONE);
        Expect.equal("the state behind " + what, of(x), of(history.get()));
    }
}
