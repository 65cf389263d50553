import java.lang.reflect.Field;
import java.lang.reflect.Modifier;
import java.nio.file.Files;
import java.nio.file.Path;
import java.util.ArrayList;
import java.util.List;
import java.util.Set;
import java.util.regex.Matcher;
import java.util.regex.Pattern;

/** What can be seen of LANGUAGE.md in the text of the class; the rest of its rules are for the reader. */
public final class LanguageTest {
    private static final String[][] FORBIDDEN = {
        {"2", "->"}, {"2", "::"}, {"6", "\\bfinally\\b"}, {"6", "\\bsynchronized\\b"}, {"6", "\\bassert\\b"},
        {"6", "\\bcatch\\s*\\((Throwable|Exception|RuntimeException|Error)\\b"}, {"2", "@"},
        {"10", "\"\\s*\\+"}, {"10", "\\+\\s*\""}, {"5", "^\\s*static\\s*\\{"}, {"1", "^package\\b"},
        {"13", "\\b(System|Random|Thread|Runtime|Date)\\."}, {"4", "Exact\\("}, {"6", "\\b(equals|hashCode|toString)\\("},
        {"4", "^import (?!java\\.util\\.(Arrays|ArrayList|List|Iterator|NoSuchElementException);)"},
        {"3", "\\b(HashMap|HashSet|LinkedList|Object|Long|Double|Float)\\b"}, {"8", "[^\\x00-\\x7f]"}};
    /** The types that rule 5 names for constants; an enum's own constants and its values() kept once come beside them. */
    private static final Set<Class<?>> CONSTANTS = Set.of(int.class, long.class, boolean.class, char.class, String.class,
            int[].class, long[].class, char[].class, byte[].class);
    private static final int MOST_CLASSES = 12;
    private static final int MOST_LINES = 60;
    private static final int MOST_PARAMETERS = 7;

    public static void main(String[] args) throws Exception {
        Check check = new Check("LanguageTest");
        Path file = Path.of(args[0], "src", "main", "java", "Lampwick.java");
        String text = Files.readString(file).replaceAll("(?s)/\\*.*?\\*/", "").replaceAll("//.*", "");
        for (String[] rule : FORBIDDEN) {
            Matcher found = Pattern.compile(rule[1], Pattern.MULTILINE).matcher(text);
            check.judge("rule " + rule[0] + ", " + rule[1], "", found.find() ? "found: " + found.group() : "");
        }
        Matcher classes = Pattern.compile("\\b(class|enum|interface|record) [A-Z]").matcher(text);
        check.judge("rule 11, classes", true, classes.results().count() <= MOST_CLASSES);
        checkMethods(check, Files.readAllLines(file));
        checkStaticFields(check, text);
        check.end();
    }

    /** Rule 5, as its words name the types: float and double, say, are not among them. */
    private static void checkStaticFields(Check check, String text) {
        check.judge("rule 5, static fields", List.of(), wrongStaticFields(Lampwick.class));
        check.judge("rule 5, fields that are right", List.of(), wrongStaticFields(RightFields.class));
        check.judge("rule 5, fields that are wrong", WrongFields.class.getDeclaredFields().length,
                wrongStaticFields(WrongFields.class).size());
        Matcher array = Pattern.compile("static final \\w+\\[\\] (\\w+) = ").matcher(text);
        while (array.find()) {
            check.judge("rule 5, " + array.group(1) + " is written out", '{', text.charAt(array.end()));
            Matcher change = Pattern.compile("\\b" + array.group(1) + "\\[[^\\]]*\\] *([-+*/%&|^]?=[^=]|\\+\\+|--|<<|>>)")
                    .matcher(text);
            check.judge("rule 5, " + array.group(1) + " is never changed", false, change.find());
        }
    }

    private static List<String> wrongStaticFields(Class<?> type) {
        List<String> wrong = new ArrayList<>();
        for (Field field : type.getDeclaredFields()) {
            int modifiers = field.getModifiers();
            if (Modifier.isStatic(modifiers) && !field.isSynthetic()
                    && !(Modifier.isFinal(modifiers) && mayBeConstant(field))) {
                wrong.add(field.toString());
            }
        }
        for (Class<?> inside : type.getDeclaredClasses()) {
            wrong.addAll(wrongStaticFields(inside));
        }
        return wrong;
    }

    private static boolean mayBeConstant(Field field) {
        Class<?> type = field.getType();
        boolean isEnumsValues = type.isArray() && type.getComponentType().isEnum();
        return CONSTANTS.contains(type) || field.isEnumConstant() || isEnumsValues;
    }

    /** What wrongStaticFields must let pass. */
    private static final class RightFields {
        static final int NUMBER = 1;
        static final long LONG = 1L;
        static final boolean IS = true;
        static final char SIGN = 'a';
        static final String TEXT = "a";
        static final int[] NUMBERS = {1};
        static final long[] LONGS = {1L};
        static final char[] SIGNS = {'a'};
        static final byte[] BYTES = {1};
        static final Kind[] KINDS = Kind.values();
        final float inObject = 1f;

        enum Kind { ONE, TWO }
    }

    /** What wrongStaticFields must find, each field of it. */
    private static final class WrongFields {
        static final float FLOAT = 1f;
        static final double DOUBLE = 1.0;
        static final short SHORT = 1;
        static final byte BYTE = 1;
        static final Integer BOXED = 1;
        static final float[] FLOATS = {1f};
        static final double[] DOUBLES = {1.0};
        static final boolean[] FLAGS = {true};
        static final String[] TEXTS = {"a"};
        static final int[][] ROWS = {{1}};
        static final StringBuilder OBJECT = new StringBuilder();
        static int changing = 1;
        static RightFields.Kind changingKind = RightFields.Kind.ONE;
    }

    private static void checkMethods(Check check, List<String> lines) {
        Pattern start = Pattern.compile("^( {4}| {8})(?!\\s)(?!.*\\bclass\\b).*\\w+\\(.*");
        int open = -1;
        for (int i = 0; i < lines.size(); i++) {
            String line = lines.get(i);
            if (open < 0 && start.matcher(line).matches() && !line.contains(";")) {
                open = i;
                check.judge("rule 11, parameters: " + line.trim(), true, line.split(",").length <= MOST_PARAMETERS);
            } else if (open >= 0 && line.matches("^( {4}| {8})\\}$")) {
                String indent = lines.get(open).replaceAll("\\S.*", "");
                if (line.equals(indent + "}")) {
                    check.judge("rule 11, lines: " + lines.get(open).trim(), true, i - open < MOST_LINES);
                    open = -1;
                }
            }
        }
    }
}
