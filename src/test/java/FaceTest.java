import java.lang.reflect.Constructor;
import java.lang.reflect.Executable;
import java.lang.reflect.Field;
import java.lang.reflect.Method;
import java.lang.reflect.Modifier;
import java.util.Arrays;
import java.util.Set;
import java.util.TreeSet;

/** The public face of the document, and rule 1 of LANGUAGE.md. */
public final class FaceTest {
    private static final Check CHECK = new Check("FaceTest");
    private static final Set<String> FACE = Set.of(
            "int feed(int, int, int, int, int) throws IllegalArgumentException, IllegalStateException",
            "int erase()",
            "void write()",
            "int put(int, int, int) throws IllegalArgumentException, IllegalStateException",
            "int end() throws IllegalStateException",
            "void read()",
            "int get(int, int) throws IllegalArgumentException, IllegalStateException",
            "int decode()",
            "int sample(int, int)",
            "int block(int, int) throws IllegalArgumentException",
            "int count(int) throws IllegalArgumentException",
            "int octet(int)");

    public static void main(String[] args) {
        Class<?> face = KeyFrames.class;
        CHECK.isTrue("public and final", Modifier.isPublic(face.getModifiers()) && Modifier.isFinal(face.getModifiers()));
        Set<String> found = new TreeSet<>();
        Set<String> names = new TreeSet<>();
        for (Method method : face.getDeclaredMethods()) {
            if (Modifier.isPublic(method.getModifiers())) {
                found.add(described(method));
                names.add(method.getName());
            }
        }
        for (String due : FACE) {
            CHECK.isTrue(due, found.contains(due));
        }
        CHECK.same("public methods", found.size(), FACE.size());
        onlyPrivateOtherwise(face, names);
        nestedClasses(face, names);
        CHECK.close();
    }

    private static String described(Method method) {
        String text = method.getReturnType() + " " + method.getName() + "(" + joined(method.getParameterTypes()) + ")";
        return method.getExceptionTypes().length == 0 ? text : text + " throws " + joined(method.getExceptionTypes());
    }

    private static String joined(Class<?>[] types) {
        return String.join(", ", Arrays.stream(types).map(Class::getSimpleName).toList());
    }

    private static void onlyPrivateOtherwise(Class<?> face, Set<String> names) {
        for (Method method : face.getDeclaredMethods()) {
            boolean isPublic = Modifier.isPublic(method.getModifiers());
            CHECK.isTrue(method + " is public or private", isPublic || Modifier.isPrivate(method.getModifiers()));
            CHECK.isTrue(method + " has a name of its own", isPublic || !names.contains(method.getName()));
        }
        for (Field field : face.getDeclaredFields()) {
            boolean isNone = field.getName().equals("NONE") && Modifier.isPublic(field.getModifiers());
            CHECK.isTrue(field + " is NONE or private", isNone || Modifier.isPrivate(field.getModifiers()));
        }
        Constructor<?>[] constructors = face.getDeclaredConstructors();
        CHECK.same("constructors", constructors.length, 1);
        CHECK.same("its parameters", constructors[0].getParameterCount(), 0);
        CHECK.isTrue("it is public", Modifier.isPublic(constructors[0].getModifiers()));
    }

    private static void nestedClasses(Class<?> face, Set<String> names) {
        for (Class<?> nested : face.getDeclaredClasses()) {
            int modifiers = nested.getModifiers();
            CHECK.isTrue(nested + " is static", Modifier.isStatic(modifiers));
            CHECK.isTrue(nested + " is hidden", !Modifier.isPublic(modifiers) && !Modifier.isProtected(modifiers));
            for (Executable method : nested.getDeclaredMethods()) {
                CHECK.isTrue(method + " has a name of its own", !names.contains(method.getName()));
            }
        }
    }
}
