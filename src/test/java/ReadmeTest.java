import java.lang.reflect.Method;
import java.lang.reflect.Modifier;
import java.nio.file.Files;
import java.nio.file.Path;
import java.util.Arrays;
import java.util.HashSet;
import java.util.List;
import java.util.Set;
import java.util.regex.Matcher;
import java.util.regex.Pattern;

/** README.md: its example answers what stands behind each call, and every call of the face is told there. */
public final class ReadmeTest {
    private static final Path README = Path.of("README.md");
    private static final Pattern CALL = Pattern.compile("^house\\.(\\w+)\\(([^)]*)\\);\\s*// (-?\\d+)\\b.*$");

    public static void main(String[] args) throws Exception {
        Due due = new Due("readme");
        List<String> lines = Files.readAllLines(README);
        example(due, lines);
        face(due, String.join("\n", lines));
        due.end();
    }

    /** All lines of the example are calls of one object, one after the other. */
    private static void example(Due due, List<String> lines) throws Exception {
        PurseHouse house = new PurseHouse();
        int calls = 0;
        for (String line : lines) {
            Matcher m = CALL.matcher(line);
            due.yes(line, m.matches() || !line.startsWith("house."));
            if (m.matches()) {
                due.is(line, answer(house, m.group(1), m.group(2)), Integer.parseInt(m.group(3)));
                calls++;
            }
        }
        due.yes(calls + " calls", calls > 20);
    }

    private static int answer(PurseHouse house, String name, String words) throws Exception {
        Object[] numbers = words.isEmpty() ? new Object[0]
                : Arrays.stream(words.split(", ")).map(Integer::valueOf).toArray();
        Class<?>[] types = new Class<?>[numbers.length];
        Arrays.fill(types, int.class);
        return (int) PurseHouse.class.getMethod(name, types).invoke(house, numbers);
    }

    private static void face(Due due, String text) {
        Set<String> told = new HashSet<>();
        for (Matcher m = Pattern.compile("`(\\w+)(\\([^)`]*\\))`").matcher(text); m.find();) {
            told.add(m.group(1) + " " + (m.group(2).equals("()") ? 0 : m.group(2).split(",").length));
        }
        for (Method method : PurseHouse.class.getDeclaredMethods()) {
            if (Modifier.isPublic(method.getModifiers())) {
                due.yes(method.getName() + " is told", told.contains(method.getName() + " " + method.getParameterCount()));
            }
        }
    }
}
