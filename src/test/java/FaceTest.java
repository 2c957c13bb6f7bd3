import java.lang.reflect.Constructor;
import java.lang.reflect.Field;
import java.lang.reflect.Method;
import java.lang.reflect.Modifier;
import java.util.Map;
import java.util.TreeMap;

/** The public face: what the document names, and nothing more that can be seen from outside. */
public final class FaceTest {
    /** Each method and how many numbers it takes. */
    private static final Object[][] METHODS = {
        {"feed", 5}, {"cut", 1}, {"hash", 2}, {"seed", 0}, {"gap", 1}, {"key", 3}, {"address", 2}, {"mine", 2},
        {"block", 2}, {"payment", 3}, {"filterByte", 2}, {"waiting", 0}, {"forget", 0}, {"give", 4}, {"header", 2},
        {"chain", 1}, {"last", 1}, {"coin", 2}, {"sum", 1}, {"pay", 2}, {"draft", 2}, {"sign", 1}, {"draftByte", 2},
        {"send", 3}, {"drop", 1}, {"check", 1}
    };

    public static void main(String[] args) {
        Due due = new Due("face");
        Class<?> c = PurseHouse.class;
        due.yes("public and final", Modifier.isPublic(c.getModifiers()) && Modifier.isFinal(c.getModifiers()));
        methods(due, c);
        int seen = 0;
        for (Field field : c.getDeclaredFields()) {
            boolean constant = "BAD NONE FULL".contains(field.getName());
            seen += constant ? 1 : 0;
            due.yes(field.getName(), Modifier.isPublic(field.getModifiers()) == constant
                    && Modifier.isPrivate(field.getModifiers()) != constant);
        }
        due.is("constants", seen, 3);
        Constructor<?>[] made = c.getDeclaredConstructors();
        due.yes("one constructor", made.length == 1 && Modifier.isPublic(made[0].getModifiers())
                && made[0].getParameterCount() == 0);
        for (Class<?> inside : c.getDeclaredClasses()) {
            due.yes(inside.getName(), Modifier.isStatic(inside.getModifiers())
                    && !Modifier.isPublic(inside.getModifiers()));
        }
        due.end();
    }

    private static void methods(Due due, Class<?> c) {
        Map<String, Integer> face = new TreeMap<>();
        for (Object[] row : METHODS) {
            face.put((String) row[0], (Integer) row[1]);
        }
        int seen = 0;
        for (Method method : c.getDeclaredMethods()) {
            Integer numbers = face.get(method.getName());
            if (numbers == null) {
                due.yes(method.getName() + " is private", Modifier.isPrivate(method.getModifiers()));
                continue;
            }
            seen++;
            due.yes(method.getName(), Modifier.isPublic(method.getModifiers())
                    && !Modifier.isStatic(method.getModifiers()) && method.getReturnType() == int.class
                    && method.getParameterCount() == numbers);
        }
        due.is("methods", seen, METHODS.length);
    }
}
