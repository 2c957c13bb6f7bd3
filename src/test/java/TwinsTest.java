import java.lang.reflect.Method;
import java.net.URL;
import java.net.URLClassLoader;
import java.nio.file.Files;
import java.nio.file.Path;
import java.util.ArrayList;
import java.util.List;
import java.util.stream.Stream;
import javax.tools.JavaCompiler;
import javax.tools.ToolProvider;

/**
 * What counts where two headers, payments or roots have one ID (promises 15 to 20): no run comes there with the true
 * HASH, so a copy of the class is made whose HASH has few values, and it wanders with the reference that has the same.
 */
public final class TwinsTest {
    private static final Path SOURCE = Path.of("src/main/java/PurseHouse.java");
    private static final Path TESTS = Path.of("src/test/java");
    private static final Path COPY = Path.of("build/twins/PurseHouse.java");
    private static final Path CLASSES = Path.of("build/twins/classes");
    private static final int[][] MASKS = {{0x03}, {0x07}, {0x1f}, {0x3f}, {0xff}, {0xff, 0x03}};

    public static void main(String[] args) throws Exception {
        compile(weakened(Files.readString(SOURCE)));
        try (URLClassLoader loader = new URLClassLoader(new URL[] {CLASSES.toUri().toURL()},
                ClassLoader.getPlatformClassLoader())) {
            Method wander = loader.loadClass("TwinsTest").getMethod("wander", int.class, int.class);
            wander.invoke(null, args.length > 0 ? Integer.parseInt(args[0]) : 4,
                    args.length > 1 ? Integer.parseInt(args[1]) : 1);
        }
    }

    /** Runs for each kind of weakness; this is called in the weakened copy alone. */
    public static void wander(int runs, int first) {
        Due due = new Due("twins");
        for (int[] masks : MASKS) {
            Weak.turnOn(masks);
            WanderTest.wander(runs, first, due);
        }
        Weak.turnOnRoots(0x1f);
        rows(due, 2, 1000, 500);
        rows(due, 3, 1000, 1000, 500);
        rows(due, 12, 3990, 3990, 3990);
        rows(due, 12, 3900, 3900, 3900);
        due.end();
    }

    /** Promise 15: a block is read to its end, though it is a row of many more payments than a block is made of. */
    private static void rows(Due due, int coins, int... amounts) {
        Pair p = new Pair(due);
        p.plant(1);
        p.giveAll(0);
        int b = 0;
        for (int i = 0; i < coins; i++) {
            b = p.mineFor(b, 50, 0, i % 4);
        }
        for (int amount : amounts) {
            int d = p.payOut(amount, 0);
            p.sign(d);
            p.send(d, 0, 0);
        }
        b = p.mine(b, 50);
        p.give(b, 0, 0, 0);
        p.give(b, 1, 0, 0);
        int length = p.y.made.get(b).bytes().length;
        due.is("payments", p.block(b, 5), 1 + amounts.length);
        int taken = 0;
        for (int place = 0; place < length && taken == 0; place++) {
            taken = p.give(b, 2, place, Weak.REWRITE);
        }
        due.is("a row of mints", taken, 1);
        p.look();
        p.lookAtMade();
    }

    private static String weakened(String source) {
        String spoiled = replace(source, "parcel[place] = (byte) (parcel[place] ^ mask);",
                "Weak.spoil(parcel, length, what, place, mask);");
        return replace(spoiled, "void endTwice(byte[] to, int at) {",
                "void endTwice(byte[] to, int at) { int hashed = length; endTruly(to, at);"
                + " Weak.shorten(to, at, hashed); } void endTruly(byte[] to, int at) {");
    }

    private static String replace(String source, String old, String made) {
        int at = source.indexOf(old);
        if (at < 0 || source.indexOf(old, at + 1) >= 0) {
            throw new IllegalStateException("not once in the class: " + old);
        }
        return source.replace(old, made);
    }

    private static void compile(String source) throws Exception {
        Files.createDirectories(CLASSES);
        Files.writeString(COPY, source);
        List<String> words = new ArrayList<>(List.of("-d", CLASSES.toString(), COPY.toString()));
        try (Stream<Path> files = Files.list(TESTS)) {
            files.filter(f -> f.toString().endsWith(".java")).forEach(f -> words.add(f.toString()));
        }
        JavaCompiler javac = ToolProvider.getSystemJavaCompiler();
        if (javac == null || javac.run(null, null, null, words.toArray(new String[0])) != 0) {
            throw new IllegalStateException("the weakened copy does not compile");
        }
    }
}
