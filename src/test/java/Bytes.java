/** Rows of bytes written in hex, the first byte first, and the longs that the class takes for them. */
final class Bytes {
    private Bytes() {
    }

    static byte[] of(String hex) {
        byte[] row = new byte[hex.length() / 2];
        for (int i = 0; i < row.length; i++) {
            row[i] = (byte) Integer.parseInt(hex.substring(2 * i, 2 * i + 2), 16);
        }
        return row;
    }

    /** The long whose lowest byte is the first of eight (or fewer: the others are 0). */
    static long first(String hex) {
        return longAt(of(hex), 0);
    }

    static long second(String hex) {
        return longAt(of(hex), 8);
    }

    static long longAt(byte[] row, int at) {
        long sum = 0;
        for (int k = 7; k >= 0; k--) {
            int place = at + k;
            sum = sum * 256 + (place < row.length ? row[place] & 0xFF : 0);
        }
        return sum;
    }

    static void feed(RotationCiphers x, String hex) {
        for (byte b : of(hex)) {
            x.feed(1, b);
        }
    }

    static RotationCiphers keyed(int kind, int rounds, String hex) {
        RotationCiphers x = new RotationCiphers();
        Bytes.feed(x, hex);
        x.key(kind, rounds);
        return x;
    }

    /** The first n bytes of the tape in hex. */
    static String tape(RotationCiphers x, int n) {
        StringBuilder text = new StringBuilder();
        for (int i = 0; i < n; i++) {
            text.append(String.format("%02x", x.tape(i) & 0xFF));
        }
        return text.toString();
    }

    static String hex(long first) {
        return String.format("%016x", Long.reverseBytes(first));
    }
}
