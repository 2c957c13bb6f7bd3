import java.io.PrintWriter;
import java.io.StringWriter;
import java.lang.management.ManagementFactory;
import java.lang.reflect.Executable;
import java.lang.reflect.Field;
import java.lang.reflect.Method;
import java.lang.reflect.Modifier;
import java.net.URISyntaxException;
import java.nio.file.Files;
import java.nio.file.Path;
import java.util.ArrayList;
import java.util.Arrays;
import java.util.HashSet;
import java.util.List;
import java.util.Map;
import java.util.Set;
import java.util.TreeMap;
import java.util.regex.Matcher;
import java.util.regex.Pattern;
import java.util.spi.ToolProvider;

/** The form that LANGUAGE.md asks of the class, as far as its text, its members and what it makes can tell. */
public final class FormTest {
    private static final Path SOURCE = Path.of("src/main/java/PurseHouse.java");
    private static final Set<String> IMPORTS = Set.of("java.util.Arrays", "java.util.ArrayList", "java.util.List",
            "java.util.Iterator");
    private static final String[] WORDS = {
        "throw", "throws", "try", "catch", "finally", "synchronized", "assert", "volatile", "native", "hashCode",
        "getClass", "Thread", "Random", "nanoTime", "currentTimeMillis", "package"
    };
    private static final Set<String> LIBRARY = Set.of("System.arraycopy", "Arrays.copyOf", "Arrays.copyOfRange",
            "Arrays.fill");
    private static final Set<String> TYPES = Set.of("int", "long", "short", "byte", "char", "boolean", "double",
            "float", "java.lang.String", "java.lang.StringBuilder", "java.util.ArrayList", "java.util.List");
    private static final Set<String> CONSTANTS = Set.of("int", "long", "boolean", "char", "java.lang.String", "[I",
            "[J", "[C", "[B");
    private static final int ELEMENTS = 7300000;

    private final Due due;
    private final String plain;
    private final List<Class<?>> classes = new ArrayList<>();
    private final Map<String, Set<String>> calls = new TreeMap<>();

    private FormTest(Due due, String source) {
        this.due = due;
        plain = withoutWords(source);
        classes.add(PurseHouse.class);
        classes.addAll(Arrays.asList(PurseHouse.class.getDeclaredClasses()));
    }

    public static void main(String[] args) throws Exception {
        Due due = new Due("form");
        FormTest test = new FormTest(due, Files.readString(SOURCE));
        test.names();
        test.classesInside();
        test.types();
        test.library();
        test.constants();
        test.words();
        test.loops();
        test.sizes();
        test.lengthOfMethods();
        test.depthOfCalls();
        test.room();
        due.end();
    }

    /** The source without comments and with empty texts. */
    private static String withoutWords(String source) {
        Matcher m = Pattern.compile("/\\*.*?\\*/|//[^\\n]*|\"(?:\\\\.|[^\"\\\\])*\"|'(?:\\\\.|[^'\\\\])*'",
                Pattern.DOTALL).matcher(source);
        return m.replaceAll(r -> r.group().startsWith("/") ? "\n".repeat((int) r.group().chars()
                .filter(c -> c == '\n').count()) : "\"\"");
    }

    private int count(String pattern) {
        int n = 0;
        for (Matcher m = Pattern.compile(pattern).matcher(plain); m.find();) {
            n++;
        }
        return n;
    }

    /** Rule 1: "No private method bears the name of a public one." */
    private void names() {
        Set<String> face = new HashSet<>();
        for (Method method : PurseHouse.class.getDeclaredMethods()) {
            if (Modifier.isPublic(method.getModifiers())) {
                due.yes(method.getName() + " stands once", face.add(method.getName()));
            }
        }
        for (Class<?> one : classes) {
            for (Method method : one.getDeclaredMethods()) {
                due.yes(one.getSimpleName() + "." + method.getName(), !face.contains(method.getName())
                        || one == PurseHouse.class && Modifier.isPublic(method.getModifiers()));
            }
        }
    }

    /** Rule 2: static ones alone, no lambda, no method reference, no class without a name. */
    private void classesInside() {
        for (Class<?> one : classes) {
            if (one != PurseHouse.class) {
                due.yes(one.getSimpleName() + " is static", Modifier.isStatic(one.getModifiers()));
                due.is("classes inside of " + one.getSimpleName(), one.getDeclaredClasses().length, 0);
            }
        }
        due.is("lambdas", count("->") - count("\\b(case [^;:]*?|default )->"), 0);
        due.is("method references", count("::"), 0);
        due.is("classes without a name", count("new\\s+\\w+\\([^;{]*\\)\\s*\\{"), 0);
        due.is("public classes", count("public (final )?class"), 1);
    }

    private boolean isOwn(Class<?> type) {
        return classes.contains(type);
    }

    /** Rule 3. */
    private void types() {
        for (Class<?> one : classes) {
            for (Field field : one.getDeclaredFields()) {
                Class<?> type = field.getType();
                Class<?> part = type.isArray() ? type.getComponentType() : type;
                boolean rows = part.isArray();
                part = rows ? part.getComponentType() : part;
                due.yes(one.getSimpleName() + "." + field.getName(), !part.isArray()
                        && (rows ? part.isPrimitive() : TYPES.contains(part.getName()) || isOwn(part)));
            }
        }
    }

    /** Rule 4. */
    private void library() {
        for (Matcher m = Pattern.compile("import ([^;]+);").matcher(plain); m.find();) {
            due.yes(m.group(1), IMPORTS.contains(m.group(1)));
        }
        Set<String> own = new HashSet<>();
        for (Class<?> one : classes) {
            own.add(one.getSimpleName());
        }
        for (Matcher m = Pattern.compile("\\b([A-Z]\\w*)\\.(\\w+)\\(").matcher(plain); m.find();) {
            String call = m.group(1) + "." + m.group(2);
            boolean numbers = Set.of("Math", "Integer", "Long").contains(m.group(1)) && !m.group(2).endsWith("Exact");
            due.yes(call, numbers || own.contains(m.group(1)) || LIBRARY.contains(call));
        }
        due.is("full names of the library", count("\\bjava\\.(?!util\\.\\w+;)"), 0);
    }

    /** Rule 5. */
    private void constants() {
        for (Class<?> one : classes) {
            for (Field field : one.getDeclaredFields()) {
                if (Modifier.isStatic(field.getModifiers())) {
                    due.yes(one.getSimpleName() + "." + field.getName(), Modifier.isFinal(field.getModifiers())
                            && CONSTANTS.contains(field.getType().getName()));
                }
            }
        }
        due.is("static blocks", count("static\\s*\\{"), 0);
    }

    /** Rules 6 and 13. */
    private void words() {
        for (String word : WORDS) {
            due.is(word, count("\\b" + word + "\\b"), 0);
        }
    }

    /** Rule 9: no loop without a condition. */
    private void loops() {
        due.is("while (true)", count("while\\s*\\(\\s*true\\s*\\)"), 0);
        due.is("for without a condition", count("for\\s*\\([^;)]*;\\s*;"), 0);
    }

    /** Rule 11: parameters, classes, fields. */
    private void sizes() {
        due.yes(classes.size() + " classes", classes.size() <= 12);
        for (Class<?> one : classes) {
            List<Executable> all = new ArrayList<>(Arrays.asList(one.getDeclaredMethods()));
            all.addAll(Arrays.asList(one.getDeclaredConstructors()));
            for (Executable method : all) {
                due.yes("parameters of " + method.getName(), method.getParameterCount() <= 7);
            }
            int fields = 0;
            for (Field field : one.getDeclaredFields()) {
                fields += Modifier.isStatic(field.getModifiers()) ? 0 : 1;
            }
            due.yes(fields + " fields of " + one.getSimpleName(), fields <= 20);
        }
    }

    /** Rule 11: some sixty lines. */
    private void lengthOfMethods() {
        String[] lines = plain.split("\n");
        Pattern head = Pattern.compile("^\\s{4,8}[\\w\\[\\]<> ]*\\w+\\([^;]*\\{$");
        for (int i = 0; i < lines.length; i++) {
            if (!head.matcher(lines[i]).matches() || lines[i].contains(" class ")) {
                continue;
            }
            int deep = 0;
            int end = i;
            do {
                deep += lines[end].chars().map(c -> c == '{' ? 1 : c == '}' ? -1 : 0).sum();
                end++;
            } while (deep > 0 && end < lines.length);
            due.yes((end - i) + " lines:" + lines[i], end - i <= 60);
        }
    }

    /** Rule 11: "calls that are no recursion go at most eight deep", as the compiled class tells; here nothing recurs. */
    private void depthOfCalls() throws URISyntaxException {
        ToolProvider javap = ToolProvider.findFirst("javap").orElse(null);
        if (javap == null) {
            return;
        }
        Path place = Path.of(PurseHouse.class.getProtectionDomain().getCodeSource().getLocation().toURI());
        for (Class<?> one : classes) {
            StringWriter text = new StringWriter();
            javap.run(new PrintWriter(text), new PrintWriter(text), "-p", "-c",
                    place.resolve(one.getName() + ".class").toString());
            gatherCalls(one.getName(), text.toString());
        }
        int deepest = 0;
        for (String method : calls.keySet()) {
            deepest = Math.max(deepest, depthOf(method, 0));
        }
        due.yes("calls " + deepest + " deep", deepest > 2 && deepest <= 8);
    }

    /** Notes which methods of the class's own each method of one class calls. */
    private void gatherCalls(String in, String text) {
        Pattern head = Pattern.compile("^  [^ ].*?([\\w$]+)\\(.*\\);$");
        Pattern call = Pattern.compile("// (?:Interface)?Method (?:([\\w$/]+)\\.)?(\\w+|\"<init>\"):");
        Set<String> made = new HashSet<>();
        for (String line : text.split("\\R")) {
            Matcher m = head.matcher(line);
            if (m.find()) {
                String name = m.group(1).equals(in) ? "<init>" : m.group(1);
                made = calls.computeIfAbsent(in + "." + name, k -> new HashSet<>());
            }
            Matcher c = call.matcher(line);
            if (c.find()) {
                made.add((c.group(1) == null ? in : c.group(1)) + "." + c.group(2).replace("\"", ""));
            }
        }
    }

    private int depthOf(String method, int above) {
        if (!calls.containsKey(method)) {
            return 0;
        }
        if (above > 50) {
            due.yes(method + " recurs", false);
            return 0;
        }
        int below = 0;
        for (String next : calls.get(method)) {
            below = Math.max(below, depthOf(next, above + 1));
        }
        return 1 + below;
    }

    /** The room of one run: what 512 calls of the dearest kinds make stays far below it, though each byte counts. */
    private void room() {
        if (!(ManagementFactory.getThreadMXBean() instanceof com.sun.management.ThreadMXBean beans)) {
            return;
        }
        long me = Thread.currentThread().getId();
        long before = beans.getThreadAllocatedBytes(me);
        PurseHouse house = new PurseHouse();
        int calls = 0;
        for (int b = 0; b < 39; b++) {
            house.feed(1, 2, 3, 4, 5);
            calls += b == 0 ? house.seed() : 1;
            house.cut(20);
            house.address(0, b % 3);
            house.mine(b, 0);
            for (int what = 0; what < 3; what++) {
                house.give(b, what, 0, 0);
            }
            calls += 7;
        }
        house.feed(1, 2, 3, 4, 5);
        due.is("a draft", house.pay(3500, 0), 0);
        house.sign(0);
        while (calls < 512) {
            house.send(0, 0, 0);
            house.forget();
            calls += 2;
        }
        long made = beans.getThreadAllocatedBytes(me) - before;
        due.yes(made + " bytes", made < ELEMENTS / 2);
    }
}
