import java.lang.reflect.Field;
import java.lang.reflect.Method;
import java.lang.reflect.Modifier;
import java.nio.file.Files;
import java.nio.file.Path;
import java.util.ArrayList;
import java.util.Arrays;
import java.util.List;
import java.util.Set;
import java.util.TreeSet;

/** Rules 3, 4, 6, 8, 9, 11 and 12 of LANGUAGE.md, as the methods and types of the class show them. */
public final class StructureTest {
    private static final int MOST_FIELDS = 20;
    /** Changes of the class that each break a rule: what is replaced, and by what. */
    private static final String[][] BREACHES = {
        {"return works.gas;", "return holder();"},
        {"return works.gas;", "throw new IllegalStateException(\"at \" + hour);"},
        {"return works.gas;", "throw new Error();"},
        {"return works.gas;", "while (true) { hour++; }"},
        {"return works.gas;", "for (;;) { hour++; }"},
        {"return works.gas;", "for (int i = 0; i < 3; i++) { rounds[i] = new Round(); } return 0;"},
        {"return works.gas;", "return (int) Math.sqrt(works.gas);"},
        {"return works.gas;", "return ((Lamp) fixtures[0]).worn;"},
        {"return works.gas;", "try { hour++; } catch (ArrayStoreException e) { hour = 0; } return 0;"},
        {"return works.gas;", "try { throw new RuntimeException(); } catch (RuntimeException e) { hour = 0; } return 0;"},
        {"this.diameter = diameter;", "this.diameter = diameter; if (rise > 0) { throw new RuntimeException(); }"},
        {"hour++;", "hour++; a(); } void a() { b(); } void b() { c(); } void c() { d(); } void d() { e(); }"
                + " void e() { f(); } void f() { g(); } void g() {"}};

    private static final Check check = new Check("StructureTest");

    public static void main(String[] args) throws Exception {
        String text = Files.readString(Path.of(args[0], "src", "main", "java", "Lampwick.java"));
        ClassText read = new ClassText(text);
        check.judge("faults", List.of(), read.faults());
        check.judge("methods that were read", methodsWithBodies(Lampwick.class), read.methodNames());
        for (String[] breach : BREACHES) {
            String broken = text.replace(breach[0], breach[1]);
            check.judge("a fault is found: " + breach[1], false, new ClassText(broken).faults().isEmpty());
        }
        types(Lampwick.class);
        for (Class<?> inside : Lampwick.class.getDeclaredClasses()) {
            types(inside);
        }
        check.end();
    }

    private static Set<String> methodsWithBodies(Class<?> type) {
        Set<String> names = new TreeSet<>();
        for (Method method : type.getDeclaredMethods()) {
            if (!method.isSynthetic() && !Modifier.isAbstract(method.getModifiers())) {
                names.add(type.getSimpleName() + "." + method.getName());
            }
        }
        for (Class<?> inside : type.getDeclaredClasses()) {
            names.addAll(methodsWithBodies(inside));
        }
        return names;
    }

    private static void types(Class<?> type) {
        List<Class<?>> used = new ArrayList<>();
        int fields = 0;
        for (Field field : type.getDeclaredFields()) {
            used.add(field.getType());
            fields += Modifier.isStatic(field.getModifiers()) ? 0 : 1;
        }
        for (Method method : type.getDeclaredMethods()) {
            used.add(method.getReturnType());
            used.addAll(Arrays.asList(method.getParameterTypes()));
        }
        check.judge("rule 11, fields of " + type, true, fields <= MOST_FIELDS);
        for (Class<?> each : used) {
            check.judge("rule 3, " + each + " in " + type, true, isAllowed(each));
        }
    }

    private static boolean isAllowed(Class<?> type) {
        if (type.isArray()) {
            Class<?> element = type.getComponentType();
            return element.isPrimitive() || isOwn(element) || element.isArray() && element.getComponentType().isPrimitive();
        }
        return type.isPrimitive() || isOwn(type) || type == String.class || type == StringBuilder.class
                || type == ArrayList.class || type == List.class || type == Integer.class;
    }

    private static boolean isOwn(Class<?> type) {
        return type == Lampwick.class || type.getNestHost() == Lampwick.class && !type.isPrimitive() && !type.isArray();
    }
}
