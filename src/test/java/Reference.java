import java.io.ByteArrayOutputStream;
import java.math.BigInteger;
import java.security.MessageDigest;
import java.util.ArrayList;
import java.util.Arrays;
import java.util.HashMap;
import java.util.HashSet;
import java.util.List;
import java.util.Map;
import java.util.Set;
import java.util.TreeSet;
import javax.crypto.Mac;
import javax.crypto.spec.SecretKeySpec;

/** The document once more, as slowly and plainly as its words go, with the Java library's own numbers and hashes. */
final class Reference {
    static final int BAD = -1, NONE = -2, FULL = -3;
    static final BigInteger P = BigInteger.TWO.pow(256).subtract(BigInteger.TWO.pow(32)).subtract(BigInteger.valueOf(977));
    static final BigInteger N = new BigInteger("fffffffffffffffffffffffffffffffebaaedce6af48a03bbfd25e8cd0364141", 16);
    static final BigInteger[] G = {
        new BigInteger("79be667ef9dcbbac55a06295ce870b07029bfcdb2dce28d959f2815b16f81798", 16),
        new BigInteger("483ada7726a3c4655da4fbfc0e1108a8fd17b448a68554199c47d08ffb10d4b8", 16)
    };

    // ---- bytes and the curve

    static byte[] join(Object... parts) {
        ByteArrayOutputStream out = new ByteArrayOutputStream();
        for (Object part : parts) {
            if (part instanceof byte[] row) {
                out.writeBytes(row);
            } else {
                out.write((Integer) part);
            }
        }
        return out.toByteArray();
    }

    static byte[] number(long value, int n) {
        byte[] out = new byte[n];
        for (int i = n - 1; i >= 0; i--, value >>= 8) {
            out[i] = (byte) value;
        }
        return out;
    }

    static byte[] number(BigInteger value) {
        byte[] raw = value.toByteArray();
        byte[] out = new byte[32];
        for (int i = 0; i < 32 && i < raw.length; i++) {
            out[31 - i] = raw[raw.length - 1 - i];
        }
        return out;
    }

    static BigInteger big(byte[] row) {
        return new BigInteger(1, row);
    }

    static int word(byte[] row, int i) {
        return (int) big(Arrays.copyOfRange(row, 4 * i, 4 * i + 4)).longValue();
    }

    static byte[] sha(byte[] x) {
        try {
            return MessageDigest.getInstance("SHA-256").digest(x);
        } catch (Exception e) {
            throw new IllegalStateException(e);
        }
    }

    static byte[] hashOf(byte[] x) {
        byte[] out = sha(sha(x));
        Weak.shorten(out, 0, x.length);
        return out;
    }

    static byte[] mac(byte[] k, byte[] x) {
        try {
            Mac mac = Mac.getInstance("HmacSHA256");
            mac.init(new SecretKeySpec(k, "HmacSHA256"));
            byte[] out = mac.doFinal(x);
            Weak.bend(out, 0);
            return out;
        } catch (Exception e) {
            throw new IllegalStateException(e);
        }
    }

    static BigInteger[] add(BigInteger[] a, BigInteger[] b) {
        if (a == null) {
            return b;
        }
        if (b == null) {
            return a;
        }
        BigInteger slope;
        if (a[0].equals(b[0])) {
            if (a[1].add(b[1]).mod(P).signum() == 0) {
                return null;
            }
            slope = a[0].multiply(a[0]).multiply(BigInteger.valueOf(3)).multiply(a[1].shiftLeft(1).modInverse(P));
        } else {
            slope = b[1].subtract(a[1]).multiply(b[0].subtract(a[0]).modInverse(P));
        }
        BigInteger x = slope.multiply(slope).subtract(a[0]).subtract(b[0]).mod(P);
        return new BigInteger[] {x, slope.multiply(a[0].subtract(x)).subtract(a[1]).mod(P)};
    }

    static BigInteger[] times(BigInteger k, BigInteger[] point) {
        BigInteger[] sum = null;
        for (int i = k.bitLength() - 1; i >= 0; i--) {
            sum = add(sum, sum);
            if (k.testBit(i)) {
                sum = add(sum, point);
            }
        }
        return sum;
    }

    static final List<BigInteger[]> DOUBLED = new ArrayList<>();

    static BigInteger[] timesBase(BigInteger k) {
        if (DOUBLED.isEmpty()) {
            DOUBLED.add(G);
            for (int i = 1; i < 256; i++) {
                DOUBLED.add(add(DOUBLED.get(i - 1), DOUBLED.get(i - 1)));
            }
        }
        BigInteger[] sum = null;
        for (int i = 0; i < 256; i++) {
            if (k.testBit(i)) {
                sum = add(sum, DOUBLED.get(i));
            }
        }
        return sum;
    }

    static byte[] publicKey(BigInteger secret) {
        BigInteger[] point = timesBase(secret);
        return join(point[1].testBit(0) ? 3 : 2, number(point[0]));
    }

    static byte[] addressOf(byte[] publicKey) {
        return Arrays.copyOf(hashOf(publicKey), 20);
    }

    static BigInteger[] pointOf(byte[] publicKey) {
        BigInteger x = big(Arrays.copyOfRange(publicKey, 1, 33));
        if (publicKey[0] != 2 && publicKey[0] != 3 || x.compareTo(P) >= 0) {
            return null;
        }
        BigInteger square = x.modPow(BigInteger.valueOf(3), P).add(BigInteger.valueOf(7)).mod(P);
        BigInteger y = square.modPow(P.add(BigInteger.ONE).shiftRight(2), P);
        if (!y.multiply(y).mod(P).equals(square)) {
            return null;
        }
        return new BigInteger[] {x, y.testBit(0) == (publicKey[0] == 3) ? y : P.subtract(y)};
    }

    static byte[] message(byte[] id, int i) {
        byte[] out = hashOf(join(id, i));
        Weak.bendMessage(out);
        return out;
    }

    static final Map<String, Boolean> LOOKED_AT = new HashMap<>();

    static String text(byte[] row) {
        return big(row).toString(36) + "/" + row.length;
    }

    static boolean right(byte[] witness, byte[] id, int i, byte[] address) {
        byte[] publicKey = Arrays.copyOf(witness, 33);
        if (!Arrays.equals(addressOf(publicKey), address)) {
            return false;
        }
        return LOOKED_AT.computeIfAbsent(text(join(witness, id, i)), k -> signatureRight(witness, id, i));
    }

    static boolean signatureRight(byte[] witness, byte[] id, int i) {
        BigInteger[] point = pointOf(Arrays.copyOf(witness, 33));
        BigInteger r = big(Arrays.copyOfRange(witness, 33, 65));
        BigInteger s = big(Arrays.copyOfRange(witness, 65, 97));
        if (point == null || r.signum() == 0 || r.compareTo(N) >= 0 || s.signum() == 0 || s.compareTo(N.shiftRight(1)) > 0) {
            return false;
        }
        BigInteger z = big(message(id, i));
        BigInteger w = s.modInverse(N);
        BigInteger[] sum = add(timesBase(z.multiply(w).mod(N)), times(r.multiply(w).mod(N), point));
        return sum != null && sum[0].mod(N).equals(r);
    }

    static byte[] witness(BigInteger d, byte[] publicKey, byte[] id, int i) {
        byte[] hash = message(id, i);
        BigInteger z = big(hash);
        for (int c = 0;; c++) {
            BigInteger k = big(mac(number(d), join(hash, c))).mod(N);
            if (k.signum() == 0) {
                zerosOfK++;
                continue;
            }
            BigInteger r = timesBase(k)[0].mod(N);
            BigInteger s = z.add(r.multiply(d)).multiply(k.modInverse(N)).mod(N);
            if (r.signum() == 0 || s.signum() == 0) {
                zerosOfS++;
                continue;
            }
            if (s.compareTo(N.shiftRight(1)) > 0) {
                s = N.subtract(s);
            }
            return join(publicKey, number(r), number(s));
        }
    }

    // ---- keys

    /** How often what no true HASH comes to came: a test that bends them (Weak) looks whether it did. */
    static int zerosOfK;
    static int zerosOfS;
    static int zerosOfMaster;
    static int zerosOfSecret;

    static BigInteger oneForZero(BigInteger secret) {
        zerosOfSecret += secret.signum() == 0 ? 1 : 0;
        return secret.signum() == 0 ? BigInteger.ONE : secret;
    }

    record Key(BigInteger secret, byte[] code) {
        Key child(long i) {
            byte[] x = i >= 1L << 31 ? join(0, number(secret), number(i, 4)) : join(publicKey(secret), number(i, 4));
            BigInteger sum = secret.add(big(mac(code, join(x, 0)))).mod(N);
            return new Key(oneForZero(sum), mac(code, join(x, 1)));
        }
    }

    /** What one seed's key is, with its public bytes. */
    record Own(int branch, int k, BigInteger secret, byte[] publicKey, byte[] address) {
    }

    /** The keys of one seed, made when they are first asked for. */
    static final class Ring {
        private final Key[] branches = new Key[2];
        private final Own[] made = new Own[64];

        Ring(byte[] seed) {
            byte[] zeros = new byte[32];
            BigInteger secret = big(mac(zeros, join(seed, 0))).mod(N);
            zerosOfMaster += secret.signum() == 0 ? 1 : 0;
            Key master = new Key(oneForZero(secret), mac(zeros, join(seed, 1)));
            Key account = master.child(1L << 31);
            branches[0] = account.child(0);
            branches[1] = account.child(1);
        }

        Own get(int branch, int k) {
            int at = 32 * branch + k;
            if (made[at] == null) {
                Key key = branches[branch].child(k);
                byte[] publicKey = publicKey(key.secret);
                made[at] = new Own(branch, k, key.secret, publicKey, addressOf(publicKey));
            }
            return made[at];
        }
    }

    static final Map<String, Ring> SEEDS = new HashMap<>();

    /** What was kept from earlier runs is of no use once HASH or MAC is another (Weak). */
    static void forgetAll() {
        SEEDS.clear();
        LOOKED_AT.clear();
    }

    // ---- payments and blocks

    record In(byte[] id, int which) {
        String name() {
            return text(join(id, which));
        }
    }

    record Out(long value, byte[] address) {
    }

    static final class Pay {
        final List<In> ins = new ArrayList<>();
        final List<Out> outs = new ArrayList<>();
        final List<byte[]> witnesses = new ArrayList<>();
        byte[] body;
        byte[] id;

        byte[] whole() {
            byte[] out = body;
            for (byte[] w : witnesses) {
                out = join(out, w);
            }
            return out;
        }
    }

    /** A reader that gives up by answering null. */
    static final class Reader {
        final byte[] row;
        int at;

        Reader(byte[] row) {
            this.row = row;
        }

        byte[] next(int n) {
            if (at + n > row.length) {
                return null;
            }
            at += n;
            return Arrays.copyOfRange(row, at - n, at);
        }

        int nextByte() {
            return at < row.length ? row[at++] & 255 : -1;
        }

        Pay payment() {
            int from = at;
            Pay pay = new Pay();
            int ins = nextByte();
            if (ins < 0 || ins > 4) {
                return null;
            }
            for (int i = 0; i < ins; i++) {
                byte[] id = next(32);
                int which = nextByte();
                if (id == null || which < 0) {
                    return null;
                }
                pay.ins.add(new In(id, which));
            }
            if (ins == 0 && next(2) == null) {
                return null;
            }
            int outs = nextByte();
            if (outs < 1 || outs > (ins == 0 ? 1 : 3)) {
                return null;
            }
            for (int i = 0; i < outs; i++) {
                byte[] value = next(4);
                byte[] address = next(20);
                if (value == null || address == null) {
                    return null;
                }
                pay.outs.add(new Out(big(value).longValue(), address));
            }
            pay.body = Arrays.copyOfRange(row, from, at);
            pay.id = hashOf(pay.body);
            for (int i = 0; i < ins; i++) {
                byte[] witness = next(97);
                if (witness == null) {
                    return null;
                }
                pay.witnesses.add(witness);
            }
            return pay;
        }
    }

    /** A header as a block of the makers has it, or one that the purse knows: these are two, and go by their own. */
    static final class Header {
        byte[] raw;
        byte[] id;
        Header before;
        int height;
        long work;
        int known = -1;
        boolean filterTaken;
        boolean blockTaken;

        int time() {
            return word(Arrays.copyOfRange(raw, 96, 100), 0);
        }

        int d() {
            return raw[100] & 255;
        }
    }

    static final class Made {
        Header header;
        Made before;
        List<Pay> pays = new ArrayList<>();
        byte[] filter;

        byte[] bytes() {
            byte[] out = new byte[0];
            for (Pay pay : pays) {
                out = join(out, pay.whole());
            }
            return out;
        }
    }

    static Header header(byte[] raw, Header before) {
        Header h = new Header();
        h.raw = raw;
        h.id = hashOf(raw);
        h.before = before;
        h.height = before == null ? 0 : before.height + 1;
        h.work = (1L << h.d()) + (before == null ? 0 : before.work);
        return h;
    }

    static boolean proved(byte[] id, int d) {
        return big(id).bitLength() <= 256 - d;
    }

    static int dueD(Header before) {
        if (before == null) {
            return 2;
        }
        int height = before.height + 1;
        if (height % 4 != 0) {
            return before.d();
        }
        Header four = before;
        while (four.height > height - 4) {
            four = four.before;
        }
        int span = before.time() - four.time();
        return span < 40 ? Math.min(6, before.d() + 1) : span > 160 ? Math.max(1, before.d() - 1) : before.d();
    }

    static byte[] root(List<byte[]> ids) {
        List<byte[]> row = ids;
        while (row.size() > 1) {
            List<byte[]> next = new ArrayList<>();
            for (int i = 0; i < row.size(); i += 2) {
                next.add(hashOf(join(row.get(i), row.get(Math.min(i + 1, row.size() - 1)))));
            }
            row = next;
        }
        return row.get(0);
    }

    static long filterNumber(byte[] before, byte[] address, int n) {
        return (word(mac(before, address), 0) & 0xffffffffL) * 64 * n >>> 32;
    }

    static byte[] filter(byte[] before, List<byte[]> addresses) {
        List<byte[]> once = new ArrayList<>();
        Set<String> seen = new HashSet<>();
        for (byte[] address : addresses) {
            if (seen.add(text(address))) {
                once.add(address);
            }
        }
        List<Long> numbers = new ArrayList<>();
        for (byte[] address : once) {
            numbers.add(filterNumber(before, address, once.size()));
        }
        numbers.sort(null);
        StringBuilder bits = new StringBuilder();
        long last = 0;
        for (long one : numbers) {
            bits.append("1".repeat((int) ((one - last) / 64))).append('0');
            bits.append(Long.toBinaryString(64 + (one - last) % 64).substring(1));
            last = one;
        }
        while (bits.length() % 8 != 0) {
            bits.append('0');
        }
        byte[] out = new byte[1 + bits.length() / 8];
        out[0] = (byte) once.size();
        for (int i = 1; i < out.length; i++) {
            out[i] = (byte) Integer.parseInt(bits.substring(8 * i - 8, 8 * i), 2);
        }
        return out;
    }

    /** The numbers, read back from a filter's bytes. */
    static Set<Long> numbersOf(byte[] filter) {
        StringBuilder bits = new StringBuilder();
        for (int i = 1; i < filter.length; i++) {
            bits.append(Integer.toBinaryString(256 + (filter[i] & 255)).substring(1));
        }
        Set<Long> out = new TreeSet<>();
        int at = 0;
        long last = 0;
        for (int i = 0; i < filter[0]; i++) {
            while (bits.charAt(at) == '1') {
                last += 64;
                at++;
            }
            last += Integer.parseInt(bits.substring(at + 1, at + 7), 2);
            at += 7;
            out.add(last);
        }
        return out;
    }

    // ---- the object

    byte[] tape = new byte[0];
    Ring own;
    int ahead = 3;
    final List<Made> made = new ArrayList<>();
    final List<Pay> queue = new ArrayList<>();
    final List<Header> known = new ArrayList<>();
    final List<Plan> drafts = new ArrayList<>();
    Scan scanned;

    Reference() {
        build(null, 0, ones());
        take(header(made.get(0).header.raw, null));
    }

    static byte[] ones() {
        byte[] out = new byte[20];
        Arrays.fill(out, (byte) 255);
        return out;
    }

    void take(Header h) {
        h.known = known.size();
        known.add(h);
    }

    int feed(int a, int b, int c, int d, int e) {
        return lengthen(join(number(a, 4), number(b, 4), number(c, 4), number(d, 4), number(e, 4)));
    }

    int lengthen(byte[] more) {
        scanned = null;
        if (tape.length + more.length > 200) {
            return FULL;
        }
        tape = join(tape, more);
        return tape.length;
    }

    int cut(int n) {
        scanned = null;
        if (n < 0 || n > tape.length) {
            return BAD;
        }
        tape = Arrays.copyOf(tape, tape.length - n);
        return tape.length;
    }

    int hash(int what, int i) {
        if (i < 0 || i > 7 || what != 0 && what != 1 || what == 1 && tape.length < 32) {
            return BAD;
        }
        byte[] out = what == 0 ? hashOf(tape) : mac(Arrays.copyOf(tape, 32), Arrays.copyOfRange(tape, 32, tape.length));
        return word(out, i);
    }

    int seed() {
        scanned = null;
        if (tape.length < 16 || tape.length > 64) {
            return BAD;
        }
        byte[] seed = tape;
        own = SEEDS.computeIfAbsent(text(join(1, seed)), k -> new Ring(seed));
        tape = new byte[0];
        for (Plan plan : drafts) {
            plan.state = 0;
        }
        return 1;
    }

    int gap(int n) {
        scanned = null;
        if (n < 1 || n > 8) {
            return BAD;
        }
        int was = ahead;
        ahead = n;
        return was;
    }

    boolean isKey(int branch, int k) {
        return own != null && branch >= 0 && branch < 2 && k >= 0 && k < 32;
    }

    int key(int branch, int k, int i) {
        return isKey(branch, k) && i >= 0 && i < 33 ? own.get(branch, k).publicKey[i] & 255 : BAD;
    }

    int address(int branch, int k) {
        return isKey(branch, k) ? lengthen(own.get(branch, k).address) : BAD;
    }

    // ---- makers

    int mine(int b, int seconds) {
        scanned = null;
        if (b < 0 || b >= made.size() || seconds < 0 || seconds > 1000) {
            return BAD;
        }
        if (made.size() == 40) {
            return FULL;
        }
        byte[] payee = ones();
        if (tape.length >= 20) {
            payee = Arrays.copyOf(tape, 20);
            tape = new byte[0];
        }
        return build(made.get(b), seconds, payee);
    }

    int build(Made before, int seconds, byte[] payee) {
        Made one = new Made();
        one.before = before;
        int number = made.size();
        one.pays.add(new Reader(join(0, number(number, 2), 1, number(1000, 4), payee)).payment());
        List<Pay> left = new ArrayList<>();
        for (Pay pay : queue) {
            if (one.pays.size() < 4 && good(pay, one)) {
                one.pays.add(pay);
            } else {
                left.add(pay);
            }
        }
        queue.clear();
        queue.addAll(left);
        byte[] beforeId = before == null ? new byte[32] : before.header.id;
        List<byte[]> ids = new ArrayList<>();
        List<byte[]> addresses = new ArrayList<>();
        for (int p = 0; p < one.pays.size(); p++) {
            Pay pay = one.pays.get(p);
            ids.add(pay.id);
            for (Out out : pay.outs) {
                addresses.add(out.address);
            }
            for (In in : pay.ins) {
                addresses.add(named(in, one, p).address);
            }
        }
        one.filter = filter(beforeId, addresses);
        int time = before == null ? 0 : before.header.time() + seconds;
        int d = dueD(before == null ? null : before.header);
        byte[] front = join(beforeId, root(ids), hashOf(one.filter), number(time, 4), d);
        int nonce = 0;
        while (!proved(hashOf(join(front, number(nonce, 4))), d)) {
            nonce++;
        }
        one.header = header(join(front, number(nonce, 4)), before == null ? null : before.header);
        made.add(one);
        return number;
    }

    /** The output that an input names, of the first n payments of a block or of blocks before it. */
    static Out named(In in, Made block, int n) {
        int end = n;
        for (Made one = block; one != null; one = one.before) {
            for (int p = 0; p < Math.min(end, one.pays.size()); p++) {
                Pay pay = one.pays.get(p);
                if (Arrays.equals(pay.id, in.id)) {
                    return in.which < pay.outs.size() ? pay.outs.get(in.which) : null;
                }
            }
            end = 4;
        }
        return null;
    }

    static boolean good(Pay pay, Made block) {
        Set<String> gone = new HashSet<>();
        for (Made one = block; one != null; one = one.before) {
            for (Pay other : one.pays) {
                for (In in : other.ins) {
                    gone.add(in.name());
                }
            }
        }
        long sum = 0;
        for (int i = 0; i < pay.ins.size(); i++) {
            In in = pay.ins.get(i);
            Out out = named(in, block, block.pays.size());
            if (out == null || !gone.add(in.name()) || !right(pay.witnesses.get(i), pay.id, i, out.address)) {
                return false;
            }
            sum += out.value;
        }
        for (Out out : pay.outs) {
            sum -= out.value;
        }
        return sum >= 0;
    }

    int block(int b, int what) {
        if (b < 0 || b >= made.size() || what < 0 || what > 31) {
            return BAD;
        }
        Made one = made.get(b);
        Header h = one.header;
        return switch (what) {
            case 0 -> one.before == null ? NONE : made.indexOf(one.before);
            case 1 -> h.height;
            case 2 -> h.d();
            case 3 -> h.time();
            case 4 -> word(Arrays.copyOfRange(h.raw, 101, 105), 0);
            case 5 -> one.pays.size();
            case 6 -> one.filter.length;
            case 7 -> (int) h.work;
            default -> what < 16 ? word(h.id, what - 8) : word(h.raw, 8 + what - 16);
        };
    }

    int payment(int b, int i, int what) {
        if (b < 0 || b >= made.size() || i < 0 || i >= made.get(b).pays.size() || what < 0 || what > 12) {
            return BAD;
        }
        Pay pay = made.get(b).pays.get(i);
        if (what < 2) {
            return what == 0 ? pay.ins.size() : pay.outs.size();
        }
        if (what < 10) {
            return word(pay.id, what - 2);
        }
        return what - 10 < pay.outs.size() ? (int) pay.outs.get(what - 10).value : 0;
    }

    int filterByte(int b, int i) {
        if (b < 0 || b >= made.size() || i < 0 || i >= made.get(b).filter.length) {
            return BAD;
        }
        return made.get(b).filter[i] & 255;
    }

    int waiting() {
        return queue.size();
    }

    int forget() {
        scanned = null;
        int n = queue.size();
        queue.clear();
        return n;
    }

    // ---- the purse

    Header knownById(byte[] id) {
        for (Header h : known) {
            if (Arrays.equals(h.id, id)) {
                return h;
            }
        }
        return null;
    }

    /** The number of the first block with this ID. */
    int firstMade(byte[] id) {
        for (int b = 0; b < made.size(); b++) {
            if (Arrays.equals(made.get(b).header.id, id)) {
                return b;
            }
        }
        return NONE;
    }

    int give(int b, int what, int place, int mask) {
        scanned = null;
        if (b < 0 || b >= made.size() || what < 0 || what > 2 || mask < 0 || mask > 255) {
            return BAD;
        }
        Made one = made.get(b);
        byte[] given = (what == 0 ? one.header.raw : what == 1 ? one.filter : one.bytes()).clone();
        if (mask > 0) {
            if (place < 0 || place >= given.length) {
                return BAD;
            }
            Weak.spoil(given, given.length, what, place, mask);
        }
        if (what == 0) {
            return giveHeader(given);
        }
        Header h = knownById(one.header.id);
        if (h == null) {
            return 0;
        }
        if (what == 1) {
            if (h.filterTaken) {
                return 2;
            }
            h.filterTaken = Arrays.equals(hashOf(given), Arrays.copyOfRange(h.raw, 64, 96));
            return h.filterTaken ? 1 : 0;
        }
        if (h.blockTaken) {
            return 2;
        }
        List<byte[]> ids = new ArrayList<>();
        Reader reader = new Reader(given);
        while (reader.at < given.length) {
            Pay pay = reader.payment();
            if (pay == null) {
                return 0;
            }
            ids.add(pay.id);
        }
        h.blockTaken = Arrays.equals(root(ids), Arrays.copyOfRange(h.raw, 32, 64));
        return h.blockTaken ? 1 : 0;
    }

    int giveHeader(byte[] given) {
        if (knownById(hashOf(given)) != null) {
            return 2;
        }
        Header before = knownById(Arrays.copyOf(given, 32));
        if (before == null || (given[100] & 255) != dueD(before)) {
            return 0;
        }
        Header h = header(given, before);
        if (h.time() < 0 || h.time() < before.time() || !proved(h.id, h.d())) {
            return 0;
        }
        if (known.size() == 60) {
            return FULL;
        }
        take(h);
        return 1;
    }

    int header(int h, int what) {
        if (h < 0 || h >= known.size() || what < 0 || what > 13) {
            return BAD;
        }
        Header one = known.get(h);
        return switch (what) {
            case 0 -> one.before == null ? NONE : one.before.known;
            case 1 -> one.height;
            case 2 -> (int) one.work;
            case 3 -> one.filterTaken ? 1 : 0;
            case 4 -> one.blockTaken ? 1 : 0;
            case 5 -> firstMade(one.id);
            default -> word(one.id, what - 6);
        };
    }

    record Coin(Pay from, int which, Own key, int height) {
        long value() {
            return from.outs.get(which).value;
        }

        String name() {
            return new In(from.id, which).name();
        }
    }

    /** What one scan found. */
    final class Scan {
        List<Coin> coins = new ArrayList<>();
        final int[] last = {-1, -1};
        int stop = NONE;
        int missing;
        int header = NONE;

        List<Own> watched() {
            List<Own> out = new ArrayList<>();
            for (int branch = 0; branch < 2; branch++) {
                for (int k = 0; k <= Math.min(31, last[branch] + ahead); k++) {
                    out.add(own.get(branch, k));
                }
            }
            return out;
        }

        Scan go() {
            List<Header> path = new ArrayList<>();
            for (Header h = best(); h != null; h = h.before) {
                path.add(0, h);
            }
            for (Header h : path) {
                if (!h.filterTaken) {
                    return stopAt(h, 1);
                }
                Made block = made.get(firstMade(h.id));
                if (!meets(block)) {
                    continue;
                }
                if (!h.blockTaken) {
                    return stopAt(h, 2);
                }
                List<Coin> before = new ArrayList<>(coins);
                int now = -1;
                while (watched().size() > now) {
                    now = watched().size();
                    coins = new ArrayList<>(before);
                    pass(block, watched(), h.height);
                }
            }
            return this;
        }

        Scan stopAt(Header h, int what) {
            stop = h.height;
            missing = what;
            header = h.known;
            return this;
        }

        boolean meets(Made block) {
            Set<Long> numbers = numbersOf(block.filter);
            for (Own key : watched()) {
                byte[] before = Arrays.copyOf(block.header.raw, 32);
                if (numbers.contains(filterNumber(before, key.address, block.filter[0]))) {
                    return true;
                }
            }
            return false;
        }

        void pass(Made block, List<Own> watching, int height) {
            for (Pay pay : block.pays) {
                for (In in : pay.ins) {
                    coins.removeIf(c -> c.name().equals(in.name()));
                }
                for (int o = 0; o < pay.outs.size(); o++) {
                    for (Own key : watching) {
                        if (Arrays.equals(key.address, pay.outs.get(o).address)) {
                            coins.add(new Coin(pay, o, key, height));
                            last[key.branch] = Math.max(last[key.branch], key.k);
                            break;
                        }
                    }
                }
            }
        }
    }

    /** The scan is gone through anew behind every call that may change anything at all. */
    Scan scan() {
        if (scanned == null) {
            scanned = new Scan().go();
        }
        return scanned;
    }

    Header best() {
        Header best = known.get(0);
        for (Header h : known) {
            if (h.work > best.work) {
                best = h;
            }
        }
        return best;
    }

    int chain(int what) {
        if (what < 0 || what > 5 || what > 2 && own == null) {
            return BAD;
        }
        if (what < 3) {
            return what == 0 ? best().known : what == 1 ? best().height : known.size();
        }
        Scan scan = scan();
        return what == 3 ? scan.stop : what == 4 ? scan.missing : scan.header;
    }

    int last(int branch) {
        return own == null || branch < 0 || branch > 1 ? BAD : scan().last[branch];
    }

    boolean locked(Coin coin) {
        for (Plan plan : drafts) {
            for (In in : plan.pay.ins) {
                if (plan.state != 0 && in.name().equals(coin.name())) {
                    return true;
                }
            }
        }
        return false;
    }

    int coin(int i, int what) {
        if (own == null) {
            return BAD;
        }
        List<Coin> coins = scan().coins;
        if (i == -1 && what == 0) {
            return coins.size();
        }
        if (i < 0 || i >= coins.size()) {
            return BAD;
        }
        Coin one = coins.get(i);
        return switch (what) {
            case 0 -> (int) one.value();
            case 1 -> one.key.branch;
            case 2 -> one.key.k;
            case 3 -> one.height;
            case 4 -> one.which;
            case 5 -> locked(one) ? 1 : 0;
            case 6 -> word(one.from.id, 0);
            default -> BAD;
        };
    }

    int sum(int what) {
        if (own == null || what < 0 || what > 1) {
            return BAD;
        }
        long sum = 0;
        for (Coin one : scan().coins) {
            sum += what == 0 || !locked(one) ? one.value() : 0;
        }
        return (int) sum;
    }

    // ---- drafts

    static final class Plan {
        Pay pay;
        List<Coin> coins;
        long fee;
        long rest;
        int looked;
        int state = 1;

        byte[] bytes() {
            return state == 0 ? new byte[0] : state == 1 ? pay.body : pay.whole();
        }
    }

    /** The rows of (a), tried by recursion. */
    static final class Rows {
        final List<Coin> coins;
        final long amount;
        final long rate;
        int looked;
        List<Coin> found;

        Rows(List<Coin> coins, long amount, long rate) {
            this.coins = coins;
            this.amount = amount;
            this.rate = rate;
        }

        boolean over() {
            return found != null || looked >= 2000;
        }

        void go(int i, List<Coin> row) {
            if (i == coins.size() || over()) {
                return;
            }
            looked++;
            List<Coin> more = new ArrayList<>(row);
            more.add(coins.get(i));
            long above = sumOf(more) - amount - fee(rate, more.size(), 1);
            if (above >= 0 && above <= 60) {
                found = more;
            } else if (above < 0 && more.size() < 4) {
                go(i + 1, more);
            }
            if (over()) {
                return;
            }
            looked++;
            go(i + 1, row);
        }
    }

    static long sumOf(List<Coin> row) {
        long sum = 0;
        for (Coin c : row) {
            sum += c.value();
        }
        return sum;
    }

    static long fee(long rate, int k, int m) {
        return rate * (2 + 130L * k + 24L * m);
    }

    int pay(int amount, int rate) {
        scanned = null;
        if (own == null || amount < 1 || amount > 1000000 || rate < 0 || rate > 9 || tape.length < 20) {
            return BAD;
        }
        if (drafts.size() == 16) {
            return FULL;
        }
        Scan scan = scan();
        List<Coin> coins = new ArrayList<>(scan.coins);
        coins.removeIf(c -> locked(c) || c.value() <= 130L * rate);
        coins.sort((a, b) -> Long.compare(b.value(), a.value()));
        Rows rows = new Rows(coins, amount, rate);
        rows.go(0, new ArrayList<>());
        Plan plan = new Plan();
        plan.looked = rows.looked;
        plan.coins = rows.found;
        for (int k = 1; plan.coins == null && k <= Math.min(4, coins.size()); k++) {
            if (sumOf(coins.subList(0, k)) >= amount + fee(rate, k, 1)) {
                plan.coins = coins.subList(0, k);
                long more = sumOf(plan.coins) - amount - fee(rate, k, 2);
                plan.rest = more > 60 ? more : 0;
            }
        }
        if (plan.coins == null) {
            return NONE;
        }
        plan.fee = sumOf(plan.coins) - amount - plan.rest;
        byte[] body = join(plan.coins.size());
        for (Coin c : plan.coins) {
            body = join(body, c.from.id, c.which);
        }
        body = join(body, plan.rest > 0 ? 2 : 1, number(amount, 4), Arrays.copyOf(tape, 20));
        if (plan.rest > 0) {
            body = join(body, number(plan.rest, 4), own.get(1, Math.min(31, scan.last[1] + 1)).address);
        }
        plan.pay = new Reader(join(body, new byte[97 * plan.coins.size()])).payment();
        plan.pay.witnesses.clear();
        tape = new byte[0];
        drafts.add(plan);
        return drafts.size() - 1;
    }

    boolean isDraft(int d) {
        return d >= 0 && d < drafts.size();
    }

    int draft(int d, int what) {
        if (!isDraft(d)) {
            return BAD;
        }
        Plan plan = drafts.get(d);
        return switch (what) {
            case 0 -> plan.pay.ins.size();
            case 1 -> plan.pay.outs.size();
            case 2 -> (int) plan.fee;
            case 3 -> (int) plan.rest;
            case 4 -> plan.state;
            case 5 -> plan.looked;
            default -> BAD;
        };
    }

    int sign(int d) {
        scanned = null;
        if (!isDraft(d)) {
            return BAD;
        }
        Plan plan = drafts.get(d);
        if (plan.state != 1) {
            return NONE;
        }
        for (int i = 0; i < plan.coins.size(); i++) {
            Own key = plan.coins.get(i).key;
            plan.pay.witnesses.add(witness(key.secret, key.publicKey, plan.pay.id, i));
        }
        plan.state = 2;
        return plan.coins.size();
    }

    int draftByte(int d, int i) {
        if (!isDraft(d) || i < 0 || i >= drafts.get(d).bytes().length) {
            return BAD;
        }
        return drafts.get(d).bytes()[i] & 255;
    }

    int send(int d, int place, int mask) {
        scanned = null;
        if (!isDraft(d) || mask < 0 || mask > 255) {
            return BAD;
        }
        Plan plan = drafts.get(d);
        byte[] bytes = plan.bytes().clone();
        if (mask > 0 && (place < 0 || place >= bytes.length)) {
            return BAD;
        }
        if (plan.state < 2) {
            return NONE;
        }
        if (queue.size() == 12) {
            return FULL;
        }
        if (mask > 0) {
            bytes[place] ^= (byte) mask;
        }
        plan.state = 3;
        Reader reader = new Reader(bytes);
        Pay pay = reader.payment();
        if (pay == null || pay.ins.isEmpty() || reader.at != bytes.length) {
            return 0;
        }
        for (Out out : pay.outs) {
            if (out.value < 1 || out.value > 1000000000) {
                return 0;
            }
        }
        queue.add(pay);
        return 1;
    }

    int drop(int d) {
        scanned = null;
        if (!isDraft(d)) {
            return BAD;
        }
        if (drafts.get(d).state == 0) {
            return NONE;
        }
        drafts.get(d).state = 0;
        return 1;
    }

    int check(int d) {
        if (!isDraft(d) || drafts.get(d).state < 2) {
            return BAD;
        }
        Plan plan = drafts.get(d);
        for (int i = 0; i < plan.coins.size(); i++) {
            if (!right(plan.pay.witnesses.get(i), plan.pay.id, i, plan.coins.get(i).key.address)) {
                return 0;
            }
        }
        return 1;
    }
}
