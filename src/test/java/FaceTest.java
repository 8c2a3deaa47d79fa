import java.lang.reflect.Constructor;
import java.lang.reflect.Field;
import java.lang.reflect.Method;
import java.lang.reflect.Modifier;
import java.util.Arrays;
import java.util.Set;
import java.util.TreeSet;
import java.util.stream.Collectors;

/** The public face: the document's members and no others, and what LANGUAGE.md asks of the rest (1, 2, 5, 11). */
public final class FaceTest {
    private static final String[] METHODS = {"set(int,int)", "gate(boolean)", "start()", "stop()", "reset()",
        "clean(int)", "run(int)", "type(char)", "clearText()", "perform()", "stopped(int)", "undo()", "keep()",
        "restore()", "bucket(int)", "sensor(int,int)", "tripsIn()", "ifTension(int,int)", "leastTension(int)",
        "trip(int,int)", "count(int)"};
    private static final String[] CONSTANTS = {"UNKNOWN", "BAD_VALUE", "FULL", "NOT_POSSIBLE", "NONE"};

    public static void main(String[] args) throws ReflectiveOperationException {
        Due due = new Due("FaceTest");
        classItself(due);
        constants(due);
        methods(due);
        classesInside(due);
        due.end();
    }

    private static void classItself(Due due) {
        due.is("public final", GrainLeg.class.getModifiers(), Modifier.PUBLIC | Modifier.FINAL);
        due.isTrue("no class above", GrainLeg.class.getSuperclass() == Object.class);
        due.is("interfaces", GrainLeg.class.getInterfaces().length, 0);
        Constructor<?>[] constructors = GrainLeg.class.getDeclaredConstructors();
        due.is("constructors", constructors.length, 1);
        due.is("its parameters", constructors[0].getParameterCount(), 0);
        due.is("it is public", constructors[0].getModifiers(), Modifier.PUBLIC);
    }

    private static void constants(Due due) throws ReflectiveOperationException {
        int open = 0;
        for (Field field : GrainLeg.class.getDeclaredFields()) {
            boolean isPrivate = Modifier.isPrivate(field.getModifiers());
            open += isPrivate ? 0 : 1;
            boolean isStatic = Modifier.isStatic(field.getModifiers());
            due.isTrue(field.getName() + " is final if it is static",
                !isStatic || Modifier.isFinal(field.getModifiers()));
        }
        due.is("constants", open, CONSTANTS.length);
        for (int i = 0; i < CONSTANTS.length; i++) {
            Field field = GrainLeg.class.getDeclaredField(CONSTANTS[i]);
            due.is(CONSTANTS[i] + " is public static final", field.getModifiers(),
                Modifier.PUBLIC | Modifier.STATIC | Modifier.FINAL);
            due.isTrue(CONSTANTS[i] + " is an int", field.getType() == int.class);
            due.is(CONSTANTS[i], field.getInt(null), -101 - i);
        }
    }

    private static String faceOf(Method method) {
        return method.getName() + Arrays.stream(method.getParameterTypes()).map(Class::getName)
            .collect(Collectors.joining(",", "(", ")"));
    }

    private static void methods(Due due) {
        Set<String> faces = new TreeSet<>();
        for (Method method : GrainLeg.class.getDeclaredMethods()) {
            if (method.isSynthetic() || Modifier.isPrivate(method.getModifiers())) {
                continue;
            }
            faces.add(faceOf(method));
            due.is(method.getName() + " is public", method.getModifiers(), Modifier.PUBLIC);
            due.isTrue(method.getName() + " answers an int", method.getReturnType() == int.class);
        }
        due.isTrue("the methods are those of the document: " + faces, faces.equals(Set.of(METHODS)));
    }

    private static void classesInside(Due due) {
        Set<String> names = Arrays.stream(METHODS).map(face -> face.substring(0, face.indexOf('(')))
            .collect(Collectors.toSet());
        Class<?>[] inside = GrainLeg.class.getDeclaredClasses();
        due.isTrue("some twelve classes", inside.length < 12);
        privateNames(due, GrainLeg.class, names);
        for (Class<?> part : inside) {
            int modifiers = part.getModifiers();
            due.isTrue(part + " is static", Modifier.isStatic(modifiers));
            due.isTrue(part + " is not open", !Modifier.isPublic(modifiers) && !Modifier.isProtected(modifiers));
            long fields = Arrays.stream(part.getDeclaredFields())
                .filter(field -> !Modifier.isStatic(field.getModifiers())).count();
            due.isTrue(part + " has few fields", fields <= 20);
            privateNames(due, part, names);
        }
    }

    private static void privateNames(Due due, Class<?> part, Set<String> names) {
        for (Method method : part.getDeclaredMethods()) {
            boolean isFace = Modifier.isPublic(method.getModifiers()) && part == GrainLeg.class;
            due.isTrue(part + "." + method.getName() + " has a name of its own", isFace || !names.contains(method.getName()));
            due.isTrue(method + " has few parameters", method.getParameterCount() <= 7);
        }
    }
}
