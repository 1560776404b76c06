/** All that can be asked of an object, as one text: equal before and behind a call that changes nothing. */
final class State {
    private State() {
    }

    static String of(RotationCiphers x) {
        StringBuilder text = new StringBuilder();
        text.append("kind ").append(x.kind()).append(" other ").append(x.other());
        text.append(" check ").append(x.check()).append(" tape");
        for (int i = 0; i < 256; i += 8) {
            text.append(' ').append(Long.toHexString(x.tape(i)));
        }
        text.append(" subkeys");
        for (int i = 0; i < 68; i++) {
            text.append(' ').append(subkey(x, i));
        }
        // Mode 2 is its own way back, so that twice leaves the tape and tells the number of blocks.
        text.append(" blocks ").append(x.mode(2, true)).append(' ').append(x.mode(2, true));
        return text.toString();
    }

    private static String subkey(RotationCiphers x, int i) {
        try {
            return Long.toHexString(x.subkey(i));
        } catch (IndexOutOfBoundsException e) {
            return "none";
        }
    }

    /** The call throws what is due, and the object is as before. */
    static void keptBy(String what, Class<? extends RuntimeException> due, RotationCiphers x, Runnable call) {
        String before = of(x);
        Expect.throwing(what, due, call);
        Expect.equal("the state behind " + what, of(x), before);
    }
}
