import java.lang.reflect.Method;
import java.net.URL;
import java.net.URLClassLoader;
import java.nio.file.Files;
import java.nio.file.Path;
import java.util.ArrayList;
import java.util.Arrays;
import java.util.List;
import java.util.stream.Stream;
import javax.tools.JavaCompiler;
import javax.tools.ToolProvider;

/**
 * What counts where two headers, payments or roots have one ID (promises 15 to 20, GOOD), and where a SECRET, k or s is
 * 0 (KEYS, SIGNED): no run comes there with the true HASH, so a copy of the class is made whose HASH has few values, or
 * whose MACS are edges, and it runs with the reference that has the same.
 */
public final class TwinsTest {
    private static final Path SOURCE = Path.of("src/main/java/PurseHouse.java");
    private static final Path TESTS = Path.of("src/test/java");
    private static final Path COPY = Path.of("build/twins/PurseHouse.java");
    private static final Path CLASSES = Path.of("build/twins/classes");
    private static final int[][] MASKS = {{0x03}, {0x07}, {0x1f}, {0x3f}, {0xff}, {0xff, 0x03}};
    /** Lines of the class, and what stands for them in the copy. */
    private static final String[][] LINES = {
        {"parcel[place] = (byte) (parcel[place] ^ mask);", "Weak.spoil(parcel, length, what, place, mask);"},
        {"void endTwice(byte[] to, int at) {", "void endTwice(byte[] to, int at) { int hashed = length; endTruly(to, at);"
            + " Weak.shorten(to, at, hashed); } void endTruly(byte[] to, int at) {"},
        {"void endMac(byte[] to, int at) {", "void endMac(byte[] to, int at) { endMacTruly(to, at);"
            + " Weak.bend(to, at); } void endMacTruly(byte[] to, int at) {"},
        {"sha.endTwice(message, 0);", "sha.endTwice(message, 0); Weak.bendMessage(message);"}
    };

    public static void main(String[] args) throws Exception {
        String source = Files.readString(SOURCE);
        if (!source.contains("class Sha ")) {
            System.out.println("twins: the class is built otherwise, nothing was run");
            return;
        }
        compile(weakened(source));
        try (URLClassLoader loader = new URLClassLoader(new URL[] {CLASSES.toUri().toURL()},
                ClassLoader.getPlatformClassLoader())) {
            Method run = loader.loadClass("TwinsTest").getMethod("run", int.class, int.class);
            run.invoke(null, args.length > 0 ? Integer.parseInt(args[0]) : 3,
                    args.length > 1 ? Integer.parseInt(args[1]) : 1);
        }
    }

    /** All that is run for each kind of weakness; this is called in the weakened copy alone. */
    public static void run(int runs, int first) {
        Due due = new Due("twins");
        Weak.turnOnRoots(0x1f);
        rows(due, 2, 1000, 500);
        rows(due, 3, 1000, 1000, 500);
        rows(due, 12, 3990, 3990, 3990);
        rows(due, 12, 3900, 3900, 3900);
        Weak.turnOnPayments(0x07);
        moreThanInputsName(due);
        oneOutputTwice(due);
        anotherAddress(due);
        namesItsOwnId(due);
        Weak.turnOnHeaders(0, 0x07);
        countsAsInTheFirst(due);
        coinWhereItsHeaderStands(due);
        Weak.turnOnEdges();
        edges(due);
        WanderTest.wander(runs, first, due);
        for (int[] masks : MASKS) {
            Weak.turnOn(masks);
            WanderTest.wander(runs, first, due);
        }
        Weak.turnOnAddresses(0x07);
        WanderTest.wander(runs, first, due);
        due.end();
    }

    /** Promise 15: a block is read to its end, though it is a row of many more payments than a block is made of. */
    private static void rows(Due due, int coins, int... amounts) {
        Pair p = new Pair(due);
        p.plant(1);
        p.giveAll(0);
        int b = 0;
        for (int i = 0; i < coins; i++) {
            b = p.mineFor(b, 50, 0, i % 4);
        }
        for (int amount : amounts) {
            p.signAndSend(p.payOut(amount, 0));
        }
        b = p.mine(b, 50);
        p.give(b, 0, 0, 0);
        p.give(b, 1, 0, 0);
        int length = p.y.made.get(b).bytes().length;
        due.is("payments", p.block(b, 5), 1 + amounts.length);
        int taken = 0;
        for (int place = 0; place < length && taken == 0; place++) {
            taken = p.give(b, 2, place, Weak.REWRITE);
        }
        due.is("a row of mints", taken, 1);
        p.look();
        p.lookAtMade();
    }

    /** The ID of a draft's payment, if one byte of it is another. */
    private static boolean keepsId(Pair p, int d, int place, int mask) {
        byte[] body = p.y.drafts.get(d).pay.body.clone();
        body[place] ^= (byte) mask;
        return Arrays.equals(Reference.hashOf(body), p.y.drafts.get(d).pay.id);
    }

    /** GOOD: "outputs together are no more than what the inputs name": one less, as much, one more, far more. */
    private static void moreThanInputsName(Due due) {
        int less = 0;
        int more = 0;
        for (int amount = 400; amount < 440; amount++) {
            Pair p = Pair.rich(due, 1);
            int d = p.payOut(amount, 0);
            p.sign(d);
            int place = 2 + 33 + 3;
            if (!keepsId(p, d, place, 1)) {
                continue;
            }
            due.is("it comes", p.send(d, place, 1), 1);
            boolean good = amount % 2 == 1;
            less += good ? 1 : 0;
            more += good ? 0 : 1;
            due.is("outputs of " + (good ? 999 : 1001), p.block(p.mine(1, 30), 5), good ? 2 : 1);
            due.is("it waits on", p.waiting(), good ? 0 : 1);
            p.forget();
            p.send(d, 0, 0);
            due.is("outputs of 1,000", p.block(p.mine(1, 30), 5), 2);
        }
        due.yes("one less and one more came", less > 0 && more > 0);
    }

    /** GOOD: "its inputs name outputs (each once)". */
    private static void oneOutputTwice(Due due) {
        int tried = 0;
        for (int amount = 700; amount < 760; amount++) {
            Pair p = Pair.rich(due, 1);
            p.signAndSend(p.payOwn(500, 1, 0));
            p.mineOn(1);
            due.is("two coins of one KEY", p.coin(-1, 0), 2);
            due.is("the KEY", p.coin(0, 2), p.coin(1, 2));
            int d = p.payOut(amount, 0);
            p.sign(d);
            due.is("both", p.draft(d, 0), 2);
            int place = 33 + 33;
            if (!keepsId(p, d, place, 1)) {
                continue;
            }
            tried++;
            due.is("it comes", p.send(d, place, 1), 1);
            due.is("one output twice", p.block(p.mine(2, 30), 5), 1);
            due.is("it waits on", p.waiting(), 1);
            p.send(d, 0, 0);
            due.is("each once", p.block(p.mine(2, 30), 5), 2);
        }
        due.yes("some came", tried > 1);
    }

    /** RIGHT: the PUBLIC KEY "has the ADDRESS of the output that the input names". */
    private static void anotherAddress(Due due) {
        int tried = 0;
        for (int amount = 300; amount < 360; amount++) {
            Pair p = Pair.rich(due, 1);
            p.signAndSend(p.payOwn(500, 0, 1));
            p.mineOn(1);
            due.yes("coins of two KEYS", p.coin(0, 1) != p.coin(1, 1));
            int d = p.payOut(amount, 0);
            p.sign(d);
            due.is("one of them", p.draft(d, 0), 1);
            if (!keepsId(p, d, 33, 1)) {
                continue;
            }
            tried++;
            due.is("it comes", p.send(d, 33, 1), 1);
            due.is("the other one's output", p.block(p.mine(2, 30), 5), 1);
            due.is("it waits on", p.waiting(), 1);
            p.send(d, 0, 0);
            due.is("its own", p.block(p.mine(2, 30), 5), 2);
        }
        due.yes("some came", tried > 1);
    }

    /** The numbers: of payments with one ID "the first one before it in this block, else .. of the nearest block before". */
    private static void namesItsOwnId(Due due) {
        int own = 0;
        int twice = 0;
        for (int amount = 300; amount < 360; amount++) {
            Pair p = Pair.rich(due, 2);
            p.signAndSend(p.payOwn(1500, 0, 1));
            p.mineOn(2);
            int d = p.signAndSend(p.payOut(amount, 0));
            int e = p.signAndSend(p.payOut(amount - 200, 0));
            byte[] named = p.y.drafts.get(d).pay.ins.get(0).id();
            own += Arrays.equals(named, p.y.drafts.get(d).pay.id) ? 1 : 0;
            twice += Arrays.equals(named, p.y.drafts.get(e).pay.id) ? 1 : 0;
            p.mineOn(3);
            p.send(e, 0, 0);
            p.send(d, 0, 0);
            p.mineOn(3);
            p.look();
            p.lookAtMade(2);
        }
        due.yes("some name an ID that is their own, or that comes twice", own > 1 && twice > 1);
    }

    private static boolean sameId(Pair p, int a, int b) {
        return Arrays.equals(p.y.made.get(a).header.id, p.y.made.get(b).header.id);
    }

    private static Pair purse(Due due) {
        Pair p = new Pair(due);
        p.plant(1);
        p.gap(1);
        p.giveAll(0);
        return p;
    }

    /** Blocks 1 and another one, the last, have one ID, which block 0 has not; one of them mints for KEY 0. */
    private static Pair twoBlocks(Due due, boolean firstIsOwn) {
        Pair p = purse(due);
        int seconds = 0;
        mineOne(p, firstIsOwn, seconds);
        while (sameId(p, 0, 1)) {
            p = purse(due);
            seconds++;
            mineOne(p, firstIsOwn, seconds);
        }
        int last = 1;
        while (last < 39 && (last == 1 || !sameId(p, 1, last))) {
            seconds++;
            last = mineOne(p, !firstIsOwn, seconds);
        }
        due.yes("two blocks have one ID", sameId(p, 1, last));
        return p;
    }

    private static int mineOne(Pair p, boolean own, int seconds) {
        return mineOne(p, 0, own, seconds);
    }

    private static int mineOne(Pair p, int before, boolean own, int seconds) {
        p.clear();
        if (own) {
            p.address(0, 0);
        }
        return p.mine(before, seconds);
    }

    /** "A filter or block that is taken counts as it is in that block (the first with this ID), whatever was SPOILED." */
    private static void countsAsInTheFirst(Due due) {
        for (int i = 0; i < 4; i++) {
            boolean firstIsOwn = i % 2 == 0;
            Pair p = twoBlocks(due, firstIsOwn);
            int last = p.y.made.size() - 1;
            int given = i < 2 ? last : 1;
            int other = i < 2 ? 1 : last;
            due.is("header", p.give(given, 0, 0, 0), 1);
            due.is("the other's is known by its ID", p.give(other, 0, 0, 0), 2);
            due.is("the first block with this ID", p.header(1, 5), 1);
            due.is("a filter whose HASH is not this HEADER's", p.give(other, 1, 0, 0), 0);
            due.is("a block whose ROOT is not this HEADER's", p.give(other, 2, 0, 0), 0);
            due.is("filter", p.give(given, 1, 0, 0), 1);
            due.is("it had that, of this ID", p.give(other, 1, 0, 0), 2);
            due.is("the first block's filter counts", p.chain(4), firstIsOwn ? 2 : 0);
            due.is("block", p.give(given, 2, 0, 0), 1);
            due.is("it had that, of this ID", p.give(other, 2, 0, 0), 2);
            due.is("the first block's payments count", p.coin(-1, 0), firstIsOwn ? 1 : 0);
            due.is("to the end", p.chain(3), PurseHouse.NONE);
            p.look();
        }
    }

    /** "THE SCAN goes along ITS CHAIN": a coin's HEIGHT is that of the HEADER, though the first block's is another. */
    private static void coinWhereItsHeaderStands(Due due) {
        Pair p = purse(due);
        int seconds = 0;
        while (mineOne(p, true, seconds) == 1 && sameId(p, 0, 1)) {
            p = purse(due);
            seconds++;
        }
        int between = mineOne(p, false, seconds);
        while (between < 39 && (sameId(p, 0, between) || sameId(p, 1, between))) {
            seconds++;
            between = mineOne(p, false, seconds);
        }
        int last = mineOne(p, between, false, 0);
        for (int more = 1; last < 39 && !sameId(p, 1, last); more++) {
            last = mineOne(p, between, false, more);
        }
        due.yes("two blocks have one ID", sameId(p, 1, last));
        due.is("HEIGHT of the first", p.block(1, 1), 1);
        due.is("HEIGHT of the other", p.block(last, 1), 2);
        p.giveAll(between);
        p.giveAll(last);
        due.is("the first block with this ID", p.header(2, 5), 1);
        due.is("HEIGHT of the HEADER", p.header(2, 1), 2);
        due.is("the first block's payments count", p.coin(-1, 0), 1);
        due.is("HEIGHT of the coin", p.coin(0, 3), 2);
        p.look();
    }

    /** "(1, if that is 0)" of THE MASTER and of a CHILD; "the first with which k, r, s are not 0". */
    private static void edges(Due due) {
        for (int n = 0; n < 40; n++) {
            Pair p = new Pair(due);
            p.plant(n);
            for (int k = 0; k < 32; k += 10) {
                for (int i = 0; i < 33; i += 8) {
                    p.key(0, k, i);
                    p.key(1, k + 1, i);
                }
            }
            if (n < 4 || isNearZero(p.y.own.get(0, 0)) || isNearZero(p.y.own.get(1, 1))) {
                signEdges(p);
            }
        }
        due.yes("a MASTER of 0", Reference.zerosOfMaster > 0);
        due.yes("a CHILD of 0", Reference.zerosOfSecret > Reference.zerosOfMaster);
        due.yes("a k of 0", Reference.zerosOfK > 0);
        due.yes("an s of 0", Reference.zerosOfS > 0);
    }

    private static boolean isNearZero(Reference.Own key) {
        return key.secret().bitLength() < 8 || Reference.N.subtract(key.secret()).bitLength() < 8;
    }

    /** Signs for KEY 0 of BRANCH 0 and KEY 1 of BRANCH 1: both are RIGHT, and GOOD. */
    private static void signEdges(Pair p) {
        p.giveAll(0);
        p.mineFor(0, 30, 0, 0);
        p.mineFor(1, 30, 1, 1);
        for (int amount = 100; amount < 2000; amount += 150) {
            int d = p.payOut(amount, 0);
            if (d >= 0) {
                p.signAndSend(d);
                p.due.is("RIGHT", p.check(d), 1);
                p.due.is("GOOD", p.block(p.mine(2, 30), 5), 2);
                int length = p.y.drafts.get(d).bytes().length;
                for (int i = length - 97; i < length; i += 4) {
                    p.draftByte(d, i);
                }
                p.drop(d);
            }
        }
    }

    private static String weakened(String source) {
        String made = source;
        for (String[] line : LINES) {
            made = replace(made, line[0], line[1]);
        }
        return made;
    }

    private static String replace(String source, String old, String made) {
        int at = source.indexOf(old);
        if (at < 0 || source.indexOf(old, at + 1) >= 0) {
            throw new IllegalStateException("not once in the class: " + old);
        }
        return source.replace(old, made);
    }

    private static void compile(String source) throws Exception {
        Files.createDirectories(CLASSES);
        Files.writeString(COPY, source);
        List<String> words = new ArrayList<>(List.of("-d", CLASSES.toString(), COPY.toString()));
        try (Stream<Path> files = Files.list(TESTS)) {
            files.filter(f -> f.toString().endsWith(".java")).forEach(f -> words.add(f.toString()));
        }
        JavaCompiler javac = ToolProvider.getSystemJavaCompiler();
        if (javac == null || javac.run(null, null, null, words.toArray(new String[0])) != 0) {
            throw new IllegalStateException("the weakened copy does not compile");
        }
    }
}
