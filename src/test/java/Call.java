import java.lang.reflect.InvocationTargetException;
import java.lang.reflect.Method;
import java.lang.reflect.Modifier;
import java.util.Arrays;
import java.util.List;
import java.util.stream.Collectors;

/** A call of the face as its name and numbers, and what an object answers to it, as a text. */
record Call(String name, int... numbers) {
    /** What a call answers that answers nothing. */
    static final String NOTHING = "nothing";

    /** The names of the face. */
    static List<String> names() {
        return Arrays.stream(KeyFrames.class.getDeclaredMethods())
                .filter(method -> Modifier.isPublic(method.getModifiers())).map(Method::getName).sorted().toList();
    }

    static String throwing(Class<? extends RuntimeException> exception) {
        return "throws " + exception.getSimpleName();
    }

    /** The answer, or what was thrown. */
    String answeredBy(KeyFrames frames) {
        Object[] boxed = Arrays.stream(numbers).boxed().toArray();
        try {
            Object answer = method().invoke(frames, boxed);
            return answer == null ? NOTHING : answer.toString();
        } catch (InvocationTargetException e) {
            return "throws " + e.getCause().getClass().getSimpleName();
        } catch (IllegalAccessException e) {
            throw new AssertionError(this + " can't be called", e);
        }
    }

    private Method method() {
        for (Method method : KeyFrames.class.getDeclaredMethods()) {
            boolean isPublic = Modifier.isPublic(method.getModifiers());
            if (isPublic && method.getName().equals(name) && method.getParameterCount() == numbers.length) {
                return method;
            }
        }
        throw new AssertionError(this + " is none of the face");
    }

    @Override
    public String toString() {
        String joined = Arrays.stream(numbers).mapToObj(Integer::toString).collect(Collectors.joining(", "));
        return name + "(" + joined + ")";
    }
}
