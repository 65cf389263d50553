import java.lang.reflect.Constructor;
import java.lang.reflect.Field;
import java.lang.reflect.Method;
import java.lang.reflect.Modifier;
import java.nio.file.Files;
import java.nio.file.Path;
import java.util.ArrayList;
import java.util.List;
import java.util.Set;
import java.util.TreeSet;

/** The face is the document's, word for word, and nothing else can be seen from outside. */
public final class FaceTest {
    public static void main(String[] args) throws Exception {
        Check check = new Check("FaceTest");
        Path document = Path.of(args[0], "..", "shared", "DOC.md");
        Set<String> due = new TreeSet<>(faceOf(Files.readAllLines(document)));
        Set<String> got = new TreeSet<>();
        List<String> strays = new ArrayList<>();
        for (Constructor<?> made : Lampwick.class.getDeclaredConstructors()) {
            got.add(Modifier.toString(made.getModifiers()) + " Lampwick(" + types(made.getParameterTypes()) + ")");
        }
        for (Method method : Lampwick.class.getDeclaredMethods()) {
            if (Modifier.isPublic(method.getModifiers())) {
                got.add(faceOf(method));
            } else if (!Modifier.isPrivate(method.getModifiers())) {
                strays.add(method.toString());
            }
        }
        for (Field field : Lampwick.class.getDeclaredFields()) {
            if (!Modifier.isPrivate(field.getModifiers())) {
                strays.add(field.toString());
            }
        }
        check.judge("the face", due, got);
        check.judge("members that are neither public nor private", List.of(), strays);
        check.judge("modifiers", "public final", Modifier.toString(Lampwick.class.getModifiers()));
        for (Class<?> inside : Lampwick.class.getDeclaredClasses()) {
            int modifiers = inside.getModifiers();
            check.judge(inside + " is hidden and static", true, Modifier.isStatic(modifiers)
                    && !Modifier.isPublic(modifiers) && !Modifier.isProtected(modifiers));
        }
        check.judge("other methods with a name of the face", List.of(), namesakes());
        check.end();
    }

    private static List<String> namesakes() {
        Set<String> names = new TreeSet<>();
        List<Method> others = new ArrayList<>();
        for (Method method : Lampwick.class.getDeclaredMethods()) {
            if (Modifier.isPublic(method.getModifiers())) {
                names.add(method.getName());
            } else {
                others.add(method);
            }
        }
        for (Class<?> inside : Lampwick.class.getDeclaredClasses()) {
            others.addAll(List.of(inside.getDeclaredMethods()));
        }
        List<String> namesakes = new ArrayList<>();
        for (Method other : others) {
            if (names.contains(other.getName())) {
                namesakes.add(other.toString());
            }
        }
        return namesakes;
    }

    private static List<String> faceOf(List<String> lines) {
        List<String> face = new ArrayList<>();
        for (String line : lines) {
            if (line.startsWith("    public ")) {
                face.add(withoutParameterNames(line.trim().replace(";", "")));
            }
        }
        return face;
    }

    private static String withoutParameterNames(String signature) {
        int open = signature.indexOf('(');
        int close = signature.indexOf(')');
        String types = signature.substring(open, close).replaceAll(" \\w+(?=,|$)", "");
        return signature.substring(0, open) + types + signature.substring(close);
    }

    private static String faceOf(Method method) {
        StringBuilder text = new StringBuilder("public ");
        text.append(method.getReturnType().getSimpleName()).append(' ').append(method.getName());
        text.append('(').append(types(method.getParameterTypes())).append(')');
        if (method.getExceptionTypes().length > 0) {
            text.append(" throws ").append(types(method.getExceptionTypes()));
        }
        return text.toString();
    }

    private static String types(Class<?>[] types) {
        StringBuilder text = new StringBuilder();
        for (Class<?> type : types) {
            text.append(text.length() > 0 ? ", " : "").append(type.getSimpleName());
        }
        return text.toString();
    }
}
