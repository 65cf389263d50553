import java.util.ArrayDeque;
import java.util.ArrayList;
import java.util.Deque;
import java.util.LinkedHashMap;
import java.util.LinkedHashSet;
import java.util.List;
import java.util.Map;
import java.util.Set;
import java.util.TreeSet;
import java.util.regex.Matcher;
import java.util.regex.Pattern;

/** The methods of a class's text, and what of them is outside LANGUAGE.md's rules 4, 6, 8, 9, 11 and 12. */
final class ClassText {
    private static final int DEEPEST_CALL = 8;
    private static final String EXCEPTIONS = "(IllegalStateException|IllegalArgumentException|IndexOutOfBoundsException"
            + "|ArithmeticException|UnsupportedOperationException|NoSuchElementException|RuntimeException)";
    private static final Set<String> LIBRARY = Set.of("Math.compare", "Math.max", "Math.min", "Math.abs",
            "Math.floorDiv", "Math.floorMod", "Integer.compare", "Integer.max", "Integer.min", "Integer.bitCount",
            "Long.compare", "Long.max", "Long.min", "Long.bitCount", "System.arraycopy", "Arrays.copyOf",
            "Arrays.copyOfRange", "Arrays.fill", "List.of");
    private static final Pattern METHOD = Pattern.compile("(?s).*?(\\w+)\\s*\\([^()]*\\)\\s*(throws [\\w, \\n]+)?$");
    private static final Pattern TYPE = Pattern.compile("\\b(?:class|interface|enum|record) (\\w+)");

    private record Method(String type, String name, String body) {
        boolean isConstructor() {
            return type.equals(name);
        }
    }

    private record Block(String type, String method, int begin) {
    }

    private final String text;
    private final List<Method> methods = new ArrayList<>();
    private final Map<String, Set<String>> calls = new LinkedHashMap<>();

    ClassText(String source) {
        text = source.replaceAll("(?s)/\\*.*?\\*/", "").replaceAll("//.*", "")
                .replaceAll("\"[^\"\\n]*\"", "\"\"").replaceAll("'[^'\\n]'", "' '");
        readMethods();
        for (Method method : methods) {
            calls.computeIfAbsent(method.name(), name -> new LinkedHashSet<>());
        }
        for (Method method : methods) {
            calls.get(method.name()).addAll(callsIn(method.body()));
        }
    }

    /** All methods that have a body, each with its type; constructors are left out. */
    Set<String> methodNames() {
        Set<String> names = new TreeSet<>();
        for (Method method : methods) {
            if (!method.isConstructor()) {
                names.add(method.type() + "." + method.name());
            }
        }
        return names;
    }

    private void readMethods() {
        Deque<Block> open = new ArrayDeque<>();
        int header = 0;
        for (int i = 0; i < text.length(); i++) {
            char sign = text.charAt(i);
            if (sign == '{') {
                open.push(blockOf(text.substring(header, i).trim(), open.peek(), i + 1));
            } else if (sign == '}') {
                Block closed = open.pop();
                if (closed.method() != null) {
                    methods.add(new Method(closed.type(), closed.method(), text.substring(closed.begin(), i)));
                }
            }
            header = sign == '{' || sign == '}' || sign == ';' ? i + 1 : header;
        }
    }

    /** A block right inside a type is a method, another type or an array; one inside a method is none of these. */
    private static Block blockOf(String header, Block around, int begin) {
        Matcher type = TYPE.matcher(header);
        if (type.find()) {
            return new Block(type.group(1), null, begin);
        }
        Matcher method = METHOD.matcher(header);
        boolean isInType = around != null && around.type() != null && around.method() == null;
        if (isInType && !header.contains("=") && method.matches()) {
            return new Block(around.type(), method.group(1), begin);
        }
        return new Block(null, null, begin);
    }

    /** By name alone: methods of one name count as one, which makes chains longer, never shorter. */
    private Set<String> callsIn(String body) {
        Set<String> found = new LinkedHashSet<>();
        Matcher call = Pattern.compile("(?<!Arrays\\.)(?<!Math\\.)\\b(\\w+)\\(").matcher(body);
        while (call.find()) {
            if (calls.containsKey(call.group(1))) {
                found.add(call.group(1));
            }
        }
        return found;
    }

    List<String> faults() {
        List<String> faults = new ArrayList<>();
        for (Method method : methods) {
            String where = method.type() + "." + method.name();
            addThrows(faults, method, where);
            addLoops(faults, method, where);
            deepest(faults, method.name(), new ArrayDeque<>());
        }
        Matcher library = Pattern.compile("\\b[A-Z][a-z]\\w*\\.[a-z]\\w*(?=\\()").matcher(text);
        while (library.find()) {
            if (!LIBRARY.contains(library.group())) {
                faults.add("rule 4: " + library.group());
            }
        }
        Matcher cast = Pattern.compile("\\(([A-Z][a-z]\\w*)\\) *[\\w(]").matcher(text);
        while (cast.find()) {
            faults.add("rule 6: a cast to " + cast.group(1) + ", where a pattern does");
        }
        return faults;
    }

    private static void addThrows(List<String> faults, Method method, String where) {
        int thrown = count(method.body(), "\\bthrow\\b");
        if (thrown != count(method.body(), "\\bthrow new " + EXCEPTIONS + "\\((\"\")?\\);")) {
            faults.add("rule 6: what " + where + " throws");
        }
        if (thrown > 0 && (method.isConstructor() || count(method.body(), "\\btry\\b") > 0)) {
            faults.add("rule 6: that " + where + " throws");
        }
        if (count(method.body(), "\\bcatch\\b") != count(method.body(), "\\bcatch \\(" + EXCEPTIONS + " \\w+\\)")) {
            faults.add("rule 6: what " + where + " catches");
        }
    }

    private static void addLoops(List<String> faults, Method method, String where) {
        boolean hasLoop = count(method.body(), "\\b(for|while|do)\\b") > 0;
        if (count(method.body(), "\\bwhile *\\( *true|\\bfor *\\([^;)]*; *;") > 0) {
            faults.add("rule 9: a loop of " + where + " without an end");
        }
        if (hasLoop && count(method.body(), "(?<!throw )\\bnew\\b") > 0) {
            faults.add("rule 12: " + where + " has a loop and makes objects");
        }
    }

    private void deepest(List<String> faults, String name, Deque<String> chain) {
        if (chain.contains(name)) {
            faults.add("rule 8: " + name + " calls itself by " + chain);
            return;
        }
        chain.push(name);
        if (chain.size() > DEEPEST_CALL) {
            faults.add("rule 11: deep calls, " + chain);
        } else {
            for (String called : calls.get(name)) {
                deepest(faults, called, chain);
            }
        }
        chain.pop();
    }

    private static int count(String text, String pattern) {
        return (int) Pattern.compile(pattern).matcher(text).results().count();
    }
}
