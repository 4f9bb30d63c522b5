import java.lang.reflect.Constructor;
import java.lang.reflect.Field;
import java.lang.reflect.Method;
import java.lang.reflect.Modifier;
import java.util.Arrays;
import java.util.HashSet;
import java.util.Set;
import java.util.TreeSet;
import java.util.stream.Collectors;

/** The public face is that of the document, with nothing else to be seen from outside (rule 1 of the language). */
public final class FaceTest {
    private static final String STATE = "IllegalStateException";
    private static final String ARGUMENT = "IllegalArgumentException";
    private static final String INDEX = "IndexOutOfBoundsException";
    private static final String UNSUPPORTED = "UnsupportedOperationException";

    private static final String[] FACE = {
        "boolean add 3",
        "boolean erase 2",
        "int produce 3 " + STATE + " " + ARGUMENT + " " + UNSUPPORTED,
        "int fetch 3 " + STATE + " " + ARGUMENT + " " + INDEX,
        "int fetched 2 " + INDEX,
        "int since 2 " + STATE + " " + ARGUMENT,
        "void commit 3 " + STATE + " " + ARGUMENT + " " + INDEX + " " + UNSUPPORTED,
        "int committed 2 " + STATE,
        "int clean 2 " + STATE + " " + ARGUMENT,
        "int retain 2 " + STATE + " " + ARGUMENT,
        "boolean cut 1",
        "int recover 0",
        "int log 2",
        "int known 3",
        "int octet 2",
        "int look 1",
    };

    public static void main(String[] args) {
        Class<?> face = LogBroker.class;
        Check.due("public and final", Modifier.PUBLIC | Modifier.FINAL, () -> face.getModifiers());
        Constructor<?>[] constructors = face.getDeclaredConstructors();
        Check.due("constructors", 1, () -> constructors.length);
        Check.due("without parameters", 0, () -> constructors[0].getParameterCount());
        Check.due("public", true, () -> Modifier.isPublic(constructors[0].getModifiers()));
        methods(face);
        for (Field field : face.getDeclaredFields()) {
            Check.due("private " + field.getName(), true, () -> Modifier.isPrivate(field.getModifiers()));
            Check.due("static and not final " + field.getName(), false,
                    () -> Modifier.isStatic(field.getModifiers()) && !Modifier.isFinal(field.getModifiers()));
        }
        for (Class<?> inside : face.getDeclaredClasses()) {
            int modifiers = inside.getModifiers();
            Check.due("static " + inside.getName(), true, () -> Modifier.isStatic(modifiers));
            Check.due("not to be seen " + inside.getName(), false,
                    () -> Modifier.isPublic(modifiers) || Modifier.isProtected(modifiers));
        }
        Check.finish("FaceTest");
    }

    private static void methods(Class<?> face) {
        Set<String> seen = new TreeSet<>();
        Set<String> publicNames = new HashSet<>();
        for (Method method : face.getDeclaredMethods()) {
            if (Modifier.isPublic(method.getModifiers())) {
                seen.add(signature(method));
                publicNames.add(method.getName());
                Check.due("ints alone in " + method.getName(), true,
                        () -> Arrays.stream(method.getParameterTypes()).allMatch(t -> t == int.class));
            }
        }
        Check.same("the face", new TreeSet<>(Arrays.asList(FACE)).toString(), seen.toString());
        for (Method method : face.getDeclaredMethods()) {
            if (!Modifier.isPublic(method.getModifiers())) {
                Check.due("private " + method.getName(), true, () -> Modifier.isPrivate(method.getModifiers()));
                Check.due("a public name " + method.getName(), false, () -> publicNames.contains(method.getName()));
            }
        }
    }

    private static String signature(Method method) {
        String thrown = Arrays.stream(method.getExceptionTypes()).map(e -> " " + e.getSimpleName())
                .collect(Collectors.joining());
        return method.getReturnType() + " " + method.getName() + " " + method.getParameterCount() + thrown;
    }
}
