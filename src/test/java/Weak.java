import java.math.BigInteger;
import java.util.function.IntPredicate;

/**
 * A HASH with few values, so that a run comes to two headers, payments or roots with one ID, or MACS that are edges of
 * the numbers, so that a run comes to a SECRET that is 0. All is off, and every HASH and MAC the true one, but in
 * TwinsTest.
 */
final class Weak {
    static final int REWRITE = 255;
    private static final int MINT = 28;
    private static final int PUBLIC_KEY = 33;
    private static final int TWO_IDS = 64;
    private static final int HEADER = 105;
    private static final BigInteger MINUS_ONE = Reference.N.subtract(BigInteger.ONE);
    /** What MACS are bent to: 0 and N are no SECRET, and 1 and N - 1 have the sum 0. */
    private static final BigInteger[] MACS = {
        BigInteger.ZERO, Reference.N, BigInteger.ONE, Reference.N.add(BigInteger.ONE), MINUS_ONE, MINUS_ONE, MINUS_ONE,
        BigInteger.TWO.pow(256).subtract(BigInteger.ONE)
    };
    /** What messages are bent to: by the last ones a WITNESS of SECRET 1, 2, 3 or N less that has s 0 with k 1. */
    private static final BigInteger[] MESSAGES = {
        BigInteger.ZERO, Reference.N, BigInteger.TWO.pow(256).subtract(BigInteger.ONE), times(1), times(-1), times(2),
        times(-2), times(3), times(-3)
    };
    private static int[] masks;
    /** How many bytes what has a weak HASH has. */
    private static IntPredicate lengths;
    private static boolean bent;

    private Weak() {
    }

    /** So many times the r of a WITNESS with k 1. */
    private static BigInteger times(int n) {
        return Reference.G[0].multiply(BigInteger.valueOf(n)).mod(Reference.N);
    }

    static boolean isOn() {
        return masks != null;
    }

    static void turnOff() {
        masks = null;
        lengths = null;
        bent = false;
        Reference.forgetAll();
    }

    private static void turnOn(IntPredicate which, int... left) {
        turnOff();
        masks = left;
        lengths = which;
    }

    /** Of each HASH only these bits of its first bytes are left; keys keep addresses of their own. */
    static void turnOn(int... left) {
        turnOn(length -> length != PUBLIC_KEY, left);
    }

    /** The same, but only roots of two or more are weak. */
    static void turnOnRoots(int... left) {
        turnOn(length -> length == TWO_IDS, left);
    }

    /** The same, but only IDS of blocks are weak. */
    static void turnOnHeaders(int... left) {
        turnOn(length -> length == HEADER, left);
    }

    /** The same, but only ADDRESSES, and the messages that are signed, are weak. */
    static void turnOnAddresses(int... left) {
        turnOn(length -> length == PUBLIC_KEY, left);
    }

    /** The same, but only IDS of payments are weak. */
    static void turnOnPayments(int... left) {
        turnOn(Weak::isPayment, left);
    }

    /** Many MACS and messages are edges of the numbers from now on. */
    static void turnOnEdges() {
        turnOff();
        bent = true;
    }

    static void shorten(byte[] hash, int at, int length) {
        if (masks == null || !lengths.test(length)) {
            return;
        }
        for (int i = 0; i < 32; i++) {
            hash[at + i] &= (byte) (i < masks.length ? masks[i] : 0);
        }
    }

    /** Whether a payment that is no mint has so many bytes before its witnesses. */
    private static boolean isPayment(int length) {
        for (int inputs = 1; inputs <= 4; inputs++) {
            for (int outputs = 1; outputs <= 3; outputs++) {
                if (length == 2 + 33 * inputs + 24 * outputs) {
                    return true;
                }
            }
        }
        return false;
    }

    static void bend(byte[] mac, int at) {
        bendTo(MACS, mac, at);
    }

    static void bendMessage(byte[] message) {
        bendTo(MESSAGES, message, 0);
    }

    private static void bendTo(BigInteger[] edges, byte[] row, int at) {
        int choice = Math.floorMod(row[at] + 31 * row[at + 31], edges.length + 2);
        if (bent && choice < edges.length) {
            System.arraycopy(Reference.number(edges[choice]), 0, row, at, 32);
        }
    }

    /** One byte is spoiled; but a block, by one mask, is written anew, as a row of as many payments as fit. */
    static void spoil(byte[] row, int length, int what, int place, int mask) {
        if (masks == null || what != 2 || mask != REWRITE) {
            row[place] ^= (byte) mask;
            return;
        }
        boolean[] fits = new boolean[length + 1];
        fits[0] = true;
        for (int n = 1; n <= length; n++) {
            fits[n] = pieceOf(n, fits) > 0;
        }
        for (int at = 0; at < length;) {
            int piece = pieceOf(length - at, fits);
            writePiece(row, at, piece, place);
            at += piece;
        }
    }

    /** The shortest payment behind which the rest can be filled, too; 0 without. */
    private static int pieceOf(int n, boolean[] fits) {
        if (n >= MINT && fits[n - MINT]) {
            return MINT;
        }
        for (int inputs = 1; inputs <= 4; inputs++) {
            for (int outputs = 1; outputs <= 3; outputs++) {
                int length = 2 + 130 * inputs + 24 * outputs;
                if (n >= length && fits[n - length]) {
                    return length;
                }
            }
        }
        return 0;
    }

    private static void writePiece(byte[] row, int at, int piece, int salt) {
        for (int i = 0; i < piece; i++) {
            row[at + i] = (byte) ((31 * salt + 7 * i + at) * 0x9e37 >> 8);
        }
        int inputs = piece == MINT ? 0 : (piece - 26) / 130;
        row[at] = (byte) inputs;
        row[at + (inputs == 0 ? 3 : 1 + 33 * inputs)] = (byte) (inputs == 0 ? 1 : (piece - 2 - 130 * inputs) / 24);
    }
}
