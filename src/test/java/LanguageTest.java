import java.io.IOException;
import java.lang.reflect.Array;
import java.lang.reflect.Executable;
import java.lang.reflect.Field;
import java.lang.reflect.Modifier;
import java.nio.file.Files;
import java.nio.file.Path;
import java.util.ArrayDeque;
import java.util.ArrayList;
import java.util.Arrays;
import java.util.Collections;
import java.util.Deque;
import java.util.IdentityHashMap;
import java.util.List;
import java.util.Set;
import java.util.regex.Matcher;
import java.util.regex.Pattern;

/** What can be seen of LANGUAGE.md in the class and in its text; rule 1 has FaceTest. */
public final class LanguageTest {
    private static final Check CHECK = new Check("LanguageTest");
    private static final Set<Class<?>> CONSTANTS = Set.of(
            int.class, long.class, boolean.class, char.class, String.class,
            int[].class, long[].class, char[].class, byte[].class);
    /** Words of what the rules leave out, or what the class has no need of. */
    private static final Pattern LEFT_OUT = Pattern.compile(
            "\\b(package|import|synchronized|assert|finally|try|catch|native|volatile|goto|System|Thread|Runtime"
            + "|Random|Object|Class|double|float|var|yield|sealed|\\w+Exact|equals|hashCode|toString)\\b|->|::");
    private static final Pattern THROW = Pattern.compile("throw new (\\w+)\\((\"\")?\\);");
    private static final Pattern METHOD = Pattern.compile("( {4,8})[\\w\\[\\] ]+\\(.*\\{");

    public static void main(String[] args) throws IOException {
        List<Class<?>> classes = new ArrayList<>(List.of(KeyFrames.class.getDeclaredClasses()));
        classes.add(KeyFrames.class);
        rule11(classes);
        classes.forEach(LanguageTest::rules3And5);
        String text = Files.readString(Path.of("src/main/java/KeyFrames.java"));
        ruleTexts(text);
        methodsAreShort(Arrays.asList(text.split("\n")));
        nothingMoreIsKept();
        CHECK.close();
    }

    private static void rule11(List<Class<?>> classes) {
        CHECK.isTrue("at most some twelve classes", classes.size() <= 12);
        for (Class<?> one : classes) {
            CHECK.same("classes inside " + one, one == KeyFrames.class ? 0 : one.getDeclaredClasses().length, 0);
            List<Executable> executables = new ArrayList<>(List.of(one.getDeclaredMethods()));
            executables.addAll(List.of(one.getDeclaredConstructors()));
            for (Executable executable : executables) {
                CHECK.isTrue(executable + " has at most seven parameters", executable.getParameterCount() <= 7);
            }
            long fields = Arrays.stream(one.getDeclaredFields())
                    .filter(field -> !Modifier.isStatic(field.getModifiers())).count();
            CHECK.isTrue(one + " has at most some twenty fields", fields <= 20);
        }
    }

    private static void rules3And5(Class<?> one) {
        for (Field field : one.getDeclaredFields()) {
            if (Modifier.isStatic(field.getModifiers())) {
                CHECK.isTrue(field + " is final", Modifier.isFinal(field.getModifiers()));
                CHECK.isTrue(field + " is a constant of a kind that is told", CONSTANTS.contains(field.getType()));
            } else {
                Class<?> type = field.getType().isArray() ? field.getType().getComponentType() : field.getType();
                boolean told = type.isPrimitive() || type.getEnclosingClass() == KeyFrames.class;
                CHECK.isTrue(field + " is of a type that is told", told);
            }
        }
    }

    /** Comments and the words of texts are taken out first. */
    private static void ruleTexts(String text) {
        CHECK.isTrue("characters 0 to 255 alone", text.chars().allMatch(c -> c < 256));
        String code = text.replaceAll("(?s)/\\*.*?\\*/", "").replaceAll("//.*", "").replaceAll("\"[^\"\n]*\"", "\"\"");
        Matcher leftOut = LEFT_OUT.matcher(code);
        CHECK.isTrue("a word that is left out", !leftOut.find());
        Matcher thrown = THROW.matcher(code);
        int all = code.split("\\bthrow\\b", -1).length - 1;
        int told = 0;
        while (thrown.find()) {
            told++;
            String name = thrown.group(1);
            CHECK.isTrue(name, name.equals("IllegalArgumentException") || name.equals("IllegalStateException"));
        }
        CHECK.same("throws of that form", told, all);
    }

    private static void methodsAreShort(List<String> lines) {
        int methods = 0;
        for (int i = 0; i < lines.size(); i++) {
            Matcher matcher = METHOD.matcher(lines.get(i));
            if (matcher.matches()) {
                methods++;
                String last = matcher.group(1) + "}";
                int length = lines.subList(i, lines.size()).indexOf(last) + 1;
                CHECK.isTrue(lines.get(i) + " has at most some sixty lines", length >= 1 && length <= 60);
            }
        }
        CHECK.isTrue("methods were found", methods > 40);
    }

    /** Rule 12: an object and what it holds stay small, and 512 calls add nothing to it. */
    private static void nothingMoreIsKept() {
        KeyFrames x = new KeyFrames();
        Set<Object> before = held(x);
        CHECK.isTrue("objects", before.size() <= 20);
        long elements = before.stream().filter(o -> o.getClass().isArray()).mapToLong(Array::getLength).sum();
        CHECK.isTrue("elements", elements <= 2000);
        for (int i = 0; i < 128; i++) {
            x.write();
            x.put(1 + i, i * 0x9E3779B1, 32);
            x.end();
            x.decode();
        }
        Set<Object> after = held(x);
        CHECK.isTrue("the same as before", after.size() == before.size() && before.containsAll(after));
    }

    private static Set<Object> held(KeyFrames x) {
        Set<Object> held = Collections.newSetFromMap(new IdentityHashMap<>());
        Deque<Object> left = new ArrayDeque<>(List.of(x));
        while (!left.isEmpty()) {
            Object one = left.pop();
            if (held.add(one) && !one.getClass().isArray()) {
                for (Field field : one.getClass().getDeclaredFields()) {
                    if (!field.getType().isPrimitive() && !Modifier.isStatic(field.getModifiers())) {
                        left.push(valueOf(field, one));
                    }
                }
            }
        }
        return held;
    }

    private static Object valueOf(Field field, Object of) {
        try {
            field.setAccessible(true);
            return field.get(of);
        } catch (IllegalAccessException e) {
            throw new AssertionError(field + " can't be read", e);
        }
    }
}
