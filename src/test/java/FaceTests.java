import java.lang.reflect.Constructor;
import java.lang.reflect.Field;
import java.lang.reflect.Method;
import java.lang.reflect.Modifier;
import java.util.Arrays;
import java.util.Set;
import java.util.TreeSet;
import java.util.stream.Collectors;
import java.util.stream.Stream;

/** The public face: every method of the document with what it throws, and nothing else that can be seen. */
public final class FaceTests {
    private static final String[] FACE = {
        "boolean type(long, int)",
        "int table() throws IllegalArgumentException, UnsupportedOperationException",
        "int record(int) throws IndexOutOfBoundsException, IllegalArgumentException, UnsupportedOperationException",
        "void cell(int, int, int) throws IndexOutOfBoundsException, IllegalArgumentException",
        "void drop(int, int) throws IndexOutOfBoundsException",
        "int compile()",
        "int merge() throws IllegalStateException",
        "int size()",
        "int out(int) throws IndexOutOfBoundsException",
        "long variable() throws NoSuchElementException",
        "int about(int) throws IndexOutOfBoundsException",
        "long number(int, int, int) throws IndexOutOfBoundsException, NoSuchElementException",
    };

    public static void main(String[] args) {
        Set<String> seen = new TreeSet<>();
        Set<String> names = new TreeSet<>();
        for (Method method : MergeDesk.class.getDeclaredMethods()) {
            if (!Modifier.isPrivate(method.getModifiers())) {
                Check.due(method + " is public", true, Modifier.isPublic(method.getModifiers()));
                seen.add(written(method));
                names.add(method.getName());
            }
        }
        Check.due("the face", new TreeSet<>(Arrays.asList(FACE)), seen);
        Check.due("final", Modifier.PUBLIC | Modifier.FINAL, MergeDesk.class.getModifiers());
        Constructor<?>[] constructors = MergeDesk.class.getDeclaredConstructors();
        Check.due("one constructor", "[public MergeDesk()]", Arrays.toString(constructors));
        for (Field field : MergeDesk.class.getDeclaredFields()) {
            Check.due(field + " is private", true, Modifier.isPrivate(field.getModifiers()));
        }
        for (Class<?> inner : MergeDesk.class.getDeclaredClasses()) {
            Check.due(inner + " is static", true, Modifier.isStatic(inner.getModifiers()));
            for (Method method : inner.getDeclaredMethods()) {
                Check.due(method + " has a name of its own", false, names.contains(method.getName()));
            }
            for (Field field : inner.getDeclaredFields()) {
                boolean isState = Modifier.isStatic(field.getModifiers()) && !Modifier.isFinal(field.getModifiers());
                Check.due(field + " is no static state", false, isState);
            }
        }
        Check.end();
    }

    private static String written(Method method) {
        String thrown = listed(method.getExceptionTypes());
        return method.getReturnType().getSimpleName() + " " + method.getName() + "("
                + listed(method.getParameterTypes()) + ")" + (thrown.isEmpty() ? "" : " throws " + thrown);
    }

    private static String listed(Class<?>[] types) {
        return Stream.of(types).map(Class::getSimpleName).collect(Collectors.joining(", "));
    }
}
