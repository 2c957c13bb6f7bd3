import java.lang.reflect.Field;
import java.lang.reflect.InvocationTargetException;
import java.lang.reflect.Method;
import java.math.BigInteger;
import java.util.Arrays;

/**
 * Edges that no run of calls comes to, for a run would have to find a SECRET or turn a HASH round: what 2 PAYMENTS says
 * of a WITNESS that is RIGHT, of a PUBLIC KEY, and of what can be read. They are looked at inside of the class.
 */
public final class InsideTest {
    private static final BigInteger N = Reference.N;
    private static final BigInteger ONE = BigInteger.ONE;
    private static final BigInteger HALF = N.shiftRight(1);
    private static final byte[] ID = Reference.hashOf(new byte[] {1, 2, 3});
    private static final int INPUT = 2;

    private final Due due;
    private final PurseHouse house = new PurseHouse();
    private final Object signer;
    private final Method isRight;
    private final Object curve;
    private final Method readPublic;
    private final Object makers;
    private final Method enqueue;
    private final Object purse;
    private final Method readIds;
    private final Object spot;

    private InsideTest(Due due) throws NoSuchFieldException, NoSuchMethodException, IllegalAccessException {
        this.due = due;
        house.feed(1, 2, 3, 4, 5);
        house.seed();
        signer = inside(house, "signer");
        isRight = method(signer, "isRight", byte[].class, int.class, byte[].class, int.class);
        curve = inside(signer, "curve");
        spot = inside(signer, "spot");
        readPublic = method(curve, "readPublic", spot.getClass(), byte[].class, int.class);
        makers = inside(house, "makers");
        enqueue = method(makers, "enqueue", byte[].class);
        purse = inside(house, "purse");
        readIds = method(purse, "readIds", byte[].class, int.class);
    }

    public static void main(String[] args) throws Exception {
        Due due = new Due("inside");
        if (!isBuiltAsHere()) {
            System.out.println("inside: the class is built otherwise, nothing was looked at");
            return;
        }
        InsideTest test = new InsideTest(due);
        test.greatAndSmallR();
        test.aboveTheOrder();
        test.greatAndSmallS();
        test.sumIsNothing();
        test.sumOfOnePointTwice();
        test.firstByteOfPublicKey();
        test.publicKeys();
        test.countsOfAPayment();
        test.lengthOfAPayment();
        test.valuesOfAPayment();
        test.readToTheEnd();
        test.checkOfSpoiledDraft();
        due.end();
    }

    /** A class without a Signer is another one altogether; where there is one, a name that is missing is a fault. */
    private static boolean isBuiltAsHere() {
        return Arrays.stream(PurseHouse.class.getDeclaredClasses()).anyMatch(c -> c.getSimpleName().equals("Signer"));
    }

    private static Object inside(Object of, String name) throws NoSuchFieldException, IllegalAccessException {
        Field field = of.getClass().getDeclaredField(name);
        field.setAccessible(true);
        return field.get(of);
    }

    private static Method method(Object of, String name, Class<?>... types) throws NoSuchMethodException {
        Method method = of.getClass().getDeclaredMethod(name, types);
        method.setAccessible(true);
        return method;
    }

    private static Object call(Method method, Object of, Object... args) {
        try {
            return method.invoke(of, args);
        } catch (IllegalAccessException | InvocationTargetException e) {
            throw new IllegalStateException(e);
        }
    }

    // ---- WITNESSES

    private static BigInteger message() {
        return Reference.big(Reference.message(ID, INPUT));
    }

    /** A point with this x, or null. */
    private static BigInteger[] pointAt(BigInteger x) {
        return x.compareTo(Reference.P) >= 0 ? null : Reference.pointOf(Reference.join(2, Reference.number(x)));
    }

    /** The first point whose x is this number or one that so many steps lead to. */
    private static BigInteger[] nextPoint(BigInteger from, int step) {
        BigInteger x = from;
        while (pointAt(x) == null) {
            x = x.add(BigInteger.valueOf(step));
        }
        return pointAt(x);
    }

    private static byte[] publicKey(BigInteger[] point) {
        return Reference.join(point[1].testBit(0) ? 3 : 2, Reference.number(point[0]));
    }

    private static byte[] witness(BigInteger[] key, BigInteger r, BigInteger s) {
        return Reference.join(publicKey(key), Reference.number(r), Reference.number(s));
    }

    /** The PUBLIC KEY for which r and s are RIGHT, as z / s G + r / s PUBLIC KEY is this point. */
    private static BigInteger[] keyFor(BigInteger[] point, BigInteger r, BigInteger s) {
        BigInteger[] back = Reference.timesBase(N.subtract(message().mod(N)));
        BigInteger[] sum = Reference.add(Reference.times(s.mod(N), point), back);
        return Reference.times(r.modInverse(N), sum);
    }

    private void right(String what, byte[] witness, boolean want) {
        byte[] row = Reference.join(new byte[5], witness);
        due.is(what, (Boolean) call(isRight, signer, row, 5, ID, INPUT) ? 1 : 0, want ? 1 : 0);
        due.is(what + " (reference)", Reference.signatureRight(witness, ID, INPUT) ? 1 : 0, want ? 1 : 0);
    }

    /** "r is 1 .. N - 1". */
    private void greatAndSmallR() {
        BigInteger s = BigInteger.valueOf(12345);
        BigInteger[] small = nextPoint(ONE, 1);
        due.is("1 is the x of a point", small[0].longValue(), 1);
        BigInteger[] key = keyFor(small, ONE, s);
        right("r is 1", witness(key, ONE, s), true);
        right("r is N + 1", witness(key, N.add(ONE), s), false);
        right("r is 0", witness(key, BigInteger.ZERO, s), false);
        right("r is N", witness(key, N, s), false);
        right("r is 2", witness(key, BigInteger.TWO, s), false);
        right("r is N - 1, but not that x", witness(key, N.subtract(ONE), s), false);
        BigInteger[] great = nextPoint(N.subtract(ONE), -1);
        right("r is nearly N", witness(keyFor(great, great[0], s), great[0], s), true);
        right("r is 2^256 - 1", witness(key, ONE.shiftLeft(256).subtract(ONE), s), false);
    }

    /** "has an x that is r modulo N": x may be N and more. */
    private void aboveTheOrder() {
        BigInteger s = BigInteger.valueOf(54321);
        BigInteger[] above = nextPoint(N.add(ONE), 1);
        due.yes("below P", above[0].compareTo(Reference.P) < 0);
        BigInteger r = above[0].subtract(N);
        BigInteger[] key = keyFor(above, r, s);
        right("r is x - N", witness(key, r, s), true);
        right("r is x", witness(key, above[0], s), false);
    }

    /** "s from 1 to half of N". */
    private void greatAndSmallS() {
        BigInteger[] point = Reference.timesBase(BigInteger.valueOf(777));
        BigInteger r = point[0].mod(N);
        BigInteger[] s = {ONE, BigInteger.TWO, HALF.subtract(ONE), HALF, HALF.add(ONE), N.subtract(ONE)};
        for (int i = 0; i < s.length; i++) {
            right("s of row " + i, witness(keyFor(point, r, s[i]), r, s[i]), i < 4);
        }
        right("s is 0", witness(keyFor(point, r, ONE), r, BigInteger.ZERO), false);
        right("s is N", witness(keyFor(point, r, ONE), r, N), false);
        right("s is N + 1", witness(keyFor(point, r, ONE), r, N.add(ONE)), false);
        right("s is another", witness(keyFor(point, r, ONE), r, BigInteger.TWO), false);
    }

    /** A sum that is nothing has no x. */
    private void sumIsNothing() {
        BigInteger r = Reference.G[0].mod(N);
        BigInteger d = N.subtract(message()).multiply(r.modInverse(N)).mod(N);
        for (int s = 1; s < 4; s++) {
            right("nothing", witness(Reference.timesBase(d), r, BigInteger.valueOf(s)), false);
        }
    }

    /** z / s G and r / s PUBLIC KEY are one point. */
    private void sumOfOnePointTwice() {
        BigInteger half = BigInteger.valueOf(99);
        BigInteger s = message().multiply(half.modInverse(N)).mod(N);
        while (s.compareTo(HALF) > 0) {
            half = half.add(ONE);
            s = message().multiply(half.modInverse(N)).mod(N);
        }
        BigInteger r = Reference.timesBase(half.shiftLeft(1))[0].mod(N);
        BigInteger d = message().multiply(r.modInverse(N)).mod(N);
        right("one point twice", witness(Reference.timesBase(d), r, s), true);
    }

    /** "2, or 3 if y is odd, and x": another first byte is of no PUBLIC KEY. */
    private void firstByteOfPublicKey() {
        BigInteger[] point = Reference.timesBase(BigInteger.valueOf(4711));
        BigInteger r = point[0].mod(N);
        for (int n = 1; n < 4; n++) {
            BigInteger s = BigInteger.valueOf(n);
            byte[] witness = witness(keyFor(point, r, s), r, s);
            int own = witness[0];
            for (int first = 0; first < 256; first++) {
                witness[0] = (byte) first;
                if (first < 8 || first > 126) {
                    right("first byte " + first, witness, first == own);
                }
            }
        }
    }

    private void isKey(int first, BigInteger x, boolean want) {
        byte[] row = Reference.join(first, Reference.number(x));
        due.is("PUBLIC KEY " + first + " " + x.toString(16), (Boolean) call(readPublic, curve, spot, row, 0) ? 1 : 0,
                want ? 1 : 0);
    }

    /** "the PUBLIC KEY is one (a point of the curve as told)": its x is below P, and has a y. */
    private void publicKeys() {
        for (int first = 2; first <= 3; first++) {
            int points = 0;
            for (int x = 0; x < 40; x++) {
                boolean on = pointAt(BigInteger.valueOf(x)) != null;
                points += on ? 1 : 0;
                isKey(first, BigInteger.valueOf(x), on);
                isKey(first, Reference.P.add(BigInteger.valueOf(x)), false);
                BigInteger below = Reference.P.subtract(BigInteger.valueOf(x + 1));
                isKey(first, below, pointAt(below) != null);
            }
            due.yes("some are, some are not", points > 5 && points < 35);
            isKey(first, ONE.shiftLeft(256).subtract(ONE), false);
        }
        for (int first : new int[] {0, 1, 4, 6, 7, 130, 131, 255}) {
            isKey(first, ONE, false);
        }
    }

    /** Promise 27: a draft's own WITNESSES are RIGHT, so they are spoiled inside of it, one byte at a time. */
    private void checkOfSpoiledDraft() throws NoSuchFieldException, IllegalAccessException {
        PurseHouse rich = new PurseHouse();
        rich.feed(1, 2, 3, 4, 5);
        rich.seed();
        for (int b = 0; b < 4; b++) {
            rich.address(0, b % 3);
            rich.mine(b, 30);
        }
        for (int b = 0; b < 5; b++) {
            for (int what = 0; what < 3; what++) {
                rich.give(b, what, 0, 0);
            }
        }
        rich.feed(1, 2, 3, 4, 5);
        due.is("a draft", rich.pay(3500, 0), 0);
        due.is("WITNESSES", rich.sign(0), 4);
        byte[] bytes = (byte[]) inside(((Object[]) inside(rich, "drafts"))[0], "bytes");
        int body = 2 + 4 * 33 + 48;
        for (int i = 0; i < 4; i++) {
            for (int place : new int[] {0, 1, 32, 33, 64, 65, 96}) {
                bytes[body + 97 * i + place] ^= 1;
                due.is("WITNESS " + i + " with another byte " + place, rich.check(0), 0);
                bytes[body + 97 * i + place] ^= 1;
                due.is("all are RIGHT", rich.check(0), 1);
            }
        }
        byte[] first = Arrays.copyOfRange(bytes, body, body + 97);
        System.arraycopy(bytes, body + 97, bytes, body, 97);
        due.is("the WITNESS of another input", rich.check(0), 0);
        System.arraycopy(first, 0, bytes, body, 97);
        due.is("all are RIGHT", rich.check(0), 1);
    }

    // ---- what can be read

    private static byte[] payment(int inputs, int outputs, long... values) {
        byte[] out = {(byte) inputs};
        for (int i = 0; i < inputs; i++) {
            out = Reference.join(out, ID, i);
        }
        out = Reference.join(out, outputs);
        for (int i = 0; i < outputs; i++) {
            out = Reference.join(out, Reference.number(i < values.length ? values[i] : 7, 4), new byte[20]);
        }
        return Reference.join(out, new byte[97 * inputs]);
    }

    private void comes(String what, byte[] bytes, boolean want) {
        due.is(what, (Boolean) call(enqueue, makers, bytes) ? 1 : 0, want ? 1 : 0);
        due.is("waiting", house.forget(), want ? 1 : 0);
    }

    /** "Inputs are 1 .. 4, outputs 1 .. 3". */
    private void countsOfAPayment() {
        for (int inputs = 0; inputs <= 6; inputs++) {
            for (int outputs = 0; outputs <= 5; outputs++) {
                comes(inputs + " inputs, " + outputs + " outputs", payment(inputs, outputs),
                        inputs >= 1 && inputs <= 4 && outputs >= 1 && outputs <= 3);
            }
        }
        comes("a MINT", Reference.join(0, 0, 1, 1, Reference.number(1000, 4), new byte[20]), false);
    }

    /** "as a payment with its WITNESSES, and nothing more". */
    private void lengthOfAPayment() {
        for (int inputs = 1; inputs <= 4; inputs++) {
            byte[] whole = payment(inputs, 2);
            for (int n = 0; n < whole.length; n++) {
                comes(n + " bytes of " + whole.length, Arrays.copyOf(whole, n), false);
            }
            comes("all bytes", whole, true);
            comes("one byte more", Reference.join(whole, 0), false);
            comes("a WITNESS more", Reference.join(whole, new byte[97]), false);
        }
    }

    /** "values 1 .. 1,000,000,000". */
    private void valuesOfAPayment() {
        long[] values = {0, 1, 2, 999999999, 1000000000, 1000000001, 2147483647, 2147483648L, 4294967295L};
        for (long value : values) {
            boolean fine = value >= 1 && value <= 1000000000;
            comes("value " + value, payment(1, 1, value), fine);
            comes("first value " + value, payment(2, 3, value, 5, 5), fine);
            comes("second value " + value, payment(2, 3, 5, value, 5), fine);
            comes("last value " + value, payment(2, 3, 5, 5, value), fine);
        }
    }

    private void reads(String what, byte[] row, int want) {
        due.is(what, (Integer) call(readIds, purse, row, row.length), want);
    }

    /** A block: "the payments can be read to the end". */
    private void readToTheEnd() {
        byte[] mint = Reference.join(0, 0, 1, 1, Reference.number(1000, 4), new byte[20]);
        reads("a MINT", mint, 1);
        reads("two MINTS", Reference.join(mint, mint), 2);
        reads("a byte less", Arrays.copyOf(mint, 27), -1);
        reads("a byte more", Reference.join(mint, 0), -1);
        reads("a MINT of no outputs", Reference.join(0, 0, 1, 0), -1);
        reads("a MINT of two outputs", Reference.join(0, 0, 1, 2, new byte[48]), -1);
        for (int inputs = 1; inputs <= 5; inputs++) {
            for (int outputs = 0; outputs <= 4; outputs++) {
                boolean fine = inputs <= 4 && outputs >= 1 && outputs <= 3;
                byte[] payment = payment(inputs, outputs);
                reads("behind a MINT", Reference.join(mint, payment), fine ? 2 : -1);
                reads("before a MINT", Reference.join(payment, mint), fine ? 2 : -1);
                byte[] less = Arrays.copyOf(payment, payment.length - 1);
                reads("a byte less", Reference.join(mint, less), -1);
                reads("a byte more", Reference.join(mint, payment, 1), -1);
            }
        }
    }
}
