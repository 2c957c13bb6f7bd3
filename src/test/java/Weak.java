/**
 * A HASH with few values, so that a run comes to two headers, payments or roots with one ID. It is off, and every HASH
 * the true one, but in TwinsTest.
 */
final class Weak {
    static final int REWRITE = 255;
    private static final int MINT = 28;
    private static final int PUBLIC_KEY = 33;
    private static final int TWO_IDS = 64;
    private static int[] masks;
    private static boolean rootsAlone;

    private Weak() {
    }

    static boolean isOn() {
        return masks != null;
    }

    /** Of each HASH only these bits of its first bytes are left from now on. */
    static void turnOn(int... left) {
        masks = left;
        rootsAlone = false;
    }

    /** The same, but only roots of two or more are weak. */
    static void turnOnRoots(int... left) {
        masks = left;
        rootsAlone = true;
    }

    /** What is as long as a public key keeps its HASH: keys have addresses of their own. */
    static void shorten(byte[] hash, int at, int length) {
        if (masks == null || length == PUBLIC_KEY || rootsAlone && length != TWO_IDS) {
            return;
        }
        for (int i = 0; i < 32; i++) {
            hash[at + i] &= (byte) (i < masks.length ? masks[i] : 0);
        }
    }

    /** One byte is spoiled; but a block, by one mask, is written anew, as a row of as many payments as fit. */
    static void spoil(byte[] row, int length, int what, int place, int mask) {
        if (masks == null || what != 2 || mask != REWRITE) {
            row[place] ^= (byte) mask;
            return;
        }
        boolean[] fits = new boolean[length + 1];
        fits[0] = true;
        for (int n = 1; n <= length; n++) {
            fits[n] = pieceOf(n, fits) > 0;
        }
        for (int at = 0; at < length;) {
            int piece = pieceOf(length - at, fits);
            writePiece(row, at, piece, place);
            at += piece;
        }
    }

    /** The shortest payment behind which the rest can be filled, too; 0 without. */
    private static int pieceOf(int n, boolean[] fits) {
        if (n >= MINT && fits[n - MINT]) {
            return MINT;
        }
        for (int inputs = 1; inputs <= 4; inputs++) {
            for (int outputs = 1; outputs <= 3; outputs++) {
                int length = 2 + 130 * inputs + 24 * outputs;
                if (n >= length && fits[n - length]) {
                    return length;
                }
            }
        }
        return 0;
    }

    private static void writePiece(byte[] row, int at, int piece, int salt) {
        for (int i = 0; i < piece; i++) {
            row[at + i] = (byte) ((31 * salt + 7 * i + at) * 0x9e37 >> 8);
        }
        int inputs = piece == MINT ? 0 : (piece - 26) / 130;
        row[at] = (byte) inputs;
        row[at + (inputs == 0 ? 3 : 1 + 33 * inputs)] = (byte) (inputs == 0 ? 1 : (piece - 2 - 130 * inputs) / 24);
    }
}
