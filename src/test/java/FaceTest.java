import java.lang.reflect.Constructor;
import java.lang.reflect.Field;
import java.lang.reflect.Method;
import java.lang.reflect.Modifier;
import java.util.Arrays;
import java.util.Set;
import java.util.TreeSet;

/** The public face, and rule 1 of LANGUAGE.md: nothing else of the class can be seen from outside. */
public final class FaceTest {
    private static final Set<String> FACE = new TreeSet<>(Arrays.asList(
            "void poke[int, int] [IllegalArgumentException]",
            "int peek[int] []",
            "int cpu[int] [NoSuchElementException]",
            "void set[int, int] [IllegalArgumentException]",
            "void key[int, boolean] [IllegalArgumentException]",
            "int run[int] [IllegalArgumentException]",
            "int video[int] [NoSuchElementException]",
            "int shown[int, int] [NoSuchElementException]",
            "int chip[int] [IllegalArgumentException, UnsupportedOperationException, IllegalStateException]",
            "int v[int] [NoSuchElementException]",
            "void start[int] [IllegalArgumentException]"));

    public static void main(String[] args) {
        Check check = new Check();
        Class<?> board = VipBoard.class;
        check.due("modifiers of the class", board.getModifiers(), Modifier.PUBLIC | Modifier.FINAL);
        methods(check, board);
        for (Field field : board.getDeclaredFields()) {
            check.due("private is " + field, field.getModifiers() & Modifier.PRIVATE, Modifier.PRIVATE);
        }
        Constructor<?>[] constructors = board.getDeclaredConstructors();
        check.due("constructors", constructors.length, 1);
        check.due("public is " + constructors[0], constructors[0].getModifiers(), Modifier.PUBLIC);
        for (Class<?> inside : board.getDeclaredClasses()) {
            int modifiers = inside.getModifiers();
            check.due("static is " + inside, modifiers & Modifier.STATIC, Modifier.STATIC);
            check.due("hidden is " + inside, modifiers & (Modifier.PUBLIC | Modifier.PROTECTED), 0);
        }
        check.end();
    }

    private static void methods(Check check, Class<?> board) {
        Set<String> seen = new TreeSet<>();
        Set<String> names = new TreeSet<>();
        for (Method method : board.getDeclaredMethods()) {
            if (Modifier.isPublic(method.getModifiers())) {
                seen.add(text(method));
                names.add(method.getName());
            }
        }
        check.due("the face is " + seen, seen.equals(FACE) ? 1 : 0, 1);
        for (Method method : board.getDeclaredMethods()) {
            if (!Modifier.isPublic(method.getModifiers())) {
                check.due("private is " + method, Modifier.isPrivate(method.getModifiers()) ? 1 : 0, 1);
                check.due("a name of the face: " + method, names.contains(method.getName()) ? 1 : 0, 0);
            }
        }
    }

    private static String text(Method method) {
        return method.getReturnType() + " " + method.getName() + names(method.getParameterTypes())
                + " " + names(method.getExceptionTypes());
    }

    private static String names(Class<?>[] types) {
        return Arrays.toString(Arrays.stream(types).map(Class::getSimpleName).toArray());
    }
}
