import java.lang.reflect.Constructor;
import java.lang.reflect.Field;
import java.lang.reflect.Method;
import java.lang.reflect.Modifier;
import java.util.Arrays;
import java.util.Set;
import java.util.TreeSet;
import java.util.stream.Collectors;

/** The public face: the class, its constructor and methods with what they throw, and nothing else. */
public final class FaceTest {
    private static final String ARGUMENT = "IllegalArgumentException";
    private static final String STATE = "IllegalStateException";
    private static final String INDEX = "IndexOutOfBoundsException";
    private static final String BROKEN = "UnsupportedOperationException";

    public static void main(String[] args) {
        Desk.about("The public face");
        Class<?> face = ScholarsPress.class;
        Desk.due("public and final", Modifier.PUBLIC | Modifier.FINAL, face.getModifiers());
        Set<String> due = new TreeSet<>(Arrays.asList(
                method("int feed", "int int int int int", INDEX),
                method("int end", "int", ARGUMENT),
                method("int font", "", BROKEN),
                method("int hyphens", "", BROKEN),
                method("int style", "", BROKEN),
                method("int source", "", BROKEN),
                method("int change", "int int", ARGUMENT, STATE, INDEX, BROKEN),
                method("int place", ""),
                method("int set", "int", ARGUMENT, STATE, INDEX, "ArithmeticException"),
                method("int element", "int int", ARGUMENT, STATE),
                method("int count", "int", ARGUMENT),
                method("int line", "int int", ARGUMENT, STATE, INDEX),
                method("long spot", "int int", STATE, INDEX),
                method("long paragraph", "int int", ARGUMENT, STATE, INDEX),
                method("long judge", "int", STATE, INDEX, BROKEN),
                method("int where", "int", ARGUMENT, STATE, "NoSuchElementException"),
                method("int note", "int int", ARGUMENT, STATE, INDEX),
                method("int wavering", "int", STATE, INDEX),
                method("int print", "int", STATE, INDEX),
                method("long word", "int", INDEX)));
        Set<String> got = new TreeSet<>();
        for (Method m : face.getDeclaredMethods()) {
            if (!Modifier.isPrivate(m.getModifiers())) {
                Desk.due(m.getName() + " is public and no other", Modifier.PUBLIC, m.getModifiers());
                got.add(m.getReturnType() + " " + m.getName() + "(" + names(m.getParameterTypes()) + ") " + new TreeSet<>(simple(m.getExceptionTypes())));
            }
        }
        Desk.due("methods", due.toString(), got.toString());
        others(face, got);
        Desk.close("FaceTest");
    }

    private static String method(String name, String parameters, String... thrown) {
        return name + "(" + parameters + ") " + new TreeSet<>(Arrays.asList(thrown));
    }

    private static String names(Class<?>[] types) {
        return Arrays.stream(types).map(Class::getSimpleName).collect(Collectors.joining(" "));
    }

    private static java.util.List<String> simple(Class<?>[] types) {
        return Arrays.stream(types).map(Class::getSimpleName).collect(Collectors.toList());
    }

    private static void others(Class<?> press, Set<String> methods) {
        Constructor<?>[] constructors = press.getDeclaredConstructors();
        Desk.due("one constructor", 1, constructors.length);
        Desk.due("it is public", Modifier.PUBLIC, constructors[0].getModifiers());
        Desk.due("without parameters", 0, constructors[0].getParameterCount());
        for (Field f : press.getDeclaredFields()) {
            Desk.due("field " + f.getName() + " is private", 1, Modifier.isPrivate(f.getModifiers()) ? 1 : 0);
            boolean constant = Modifier.isFinal(f.getModifiers());
            Desk.due("static " + f.getName() + " is final", 1, !Modifier.isStatic(f.getModifiers()) || constant ? 1 : 0);
        }
        for (Class<?> inside : press.getDeclaredClasses()) {
            Desk.due(inside.getSimpleName() + " is static and private", 1,
                    Modifier.isStatic(inside.getModifiers()) && Modifier.isPrivate(inside.getModifiers()) ? 1 : 0);
            for (Method m : inside.getDeclaredMethods()) {
                boolean named = methods.stream().anyMatch(face -> face.contains(" " + m.getName() + "("));
                Desk.due("private " + inside.getSimpleName() + "." + m.getName() + " bears no name of the face", 0,
                        named && Modifier.isPrivate(m.getModifiers()) ? 1 : 0);
            }
        }
    }
}
