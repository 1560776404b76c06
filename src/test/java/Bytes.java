/** Rows of bytes written in hex, the first byte first, and the longs that the class takes for them. */
final class Bytes {
    private Bytes() {
    }

    static byte[] of(String hex) {
        byte[] row = new byte[hex.length() / 2];
        for (int i = 0; i < row.length; i++) {
            row[i] = (byte) Integer.parseInt(hex.substring(2 * i, 2 * i + 2), 16);
        }
        return row;
    }

    static String text(byte[] row) {
        StringBuilder text = new StringBuilder();
        for (byte b : row) {
            text.append(String.format("%02x", b & 0xFF));
        }
        return text.toString();
    }

    /** A row without a plain pattern: no two of its blocks are alike. */
    static byte[] some(int length) {
        byte[] row = new byte[length];
        for (int i = 0; i < length; i++) {
            row[i] = (byte) (i * 89 + i / 8 * 7 + length + 1);
        }
        return row;
    }

    /** The long whose lowest byte is the first of eight (or fewer: the others are 0). */
    static long first(String hex) {
        return longAt(of(hex), 0);
    }

    static long second(String hex) {
        return longAt(of(hex), 8);
    }

    static long longAt(byte[] row, int at) {
        long sum = 0;
        for (int k = 7; k >= 0; k--) {
            int place = at + k;
            sum = sum * 256 + (place < row.length ? row[place] & 0xFF : 0);
        }
        return sum;
    }

    static <F extends Face> F fed(F x, byte[] row) {
        for (int at = 0; at < row.length; at += 8) {
            x.feed(Math.min(8, row.length - at), longAt(row, at));
        }
        return x;
    }

    static <F extends Face> F fed(F x, String hex) {
        return fed(x, of(hex));
    }

    static Subject keyed(int kind, int rounds, byte[] key) {
        Subject x = fed(new Subject(), key);
        x.key(kind, rounds);
        return x;
    }

    static Subject keyed(int kind, int rounds, String hex) {
        return keyed(kind, rounds, of(hex));
    }

    /** Some n bytes of the tape in hex. */
    static String tape(Face x, int n) {
        StringBuilder text = new StringBuilder();
        for (int i = 0; i < n; i += 8) {
            text.append(hex(x.tape(i)));
        }
        text.setLength(2 * n);
        return text.toString();
    }

    static String hex(long eight) {
        return String.format("%016x", Long.reverseBytes(eight));
    }
}
