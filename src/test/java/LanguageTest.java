import java.nio.file.Files;
import java.nio.file.Path;
import java.util.List;
import java.util.regex.Matcher;
import java.util.regex.Pattern;

/** What can be seen of LANGUAGE.md in the text of the class; the rest of its rules are for the reader. */
public final class LanguageTest {
    private static final String[][] FORBIDDEN = {
        {"2", "->"}, {"2", "::"}, {"6", "\\bfinally\\b"}, {"6", "\\bsynchronized\\b"}, {"6", "\\bassert\\b"},
        {"6", "\\bcatch\\s*\\((Throwable|Exception|RuntimeException|Error)\\b"}, {"2", "@"},
        {"10", "\"\\s*\\+"}, {"10", "\\+\\s*\""}, {"5", "^\\s*static\\s*\\{"}, {"1", "^package\\b"},
        {"13", "\\b(System|Random|Thread|Runtime|Date)\\."}, {"4", "Exact\\("}, {"6", "\\b(equals|hashCode|toString)\\("},
        {"4", "^import (?!java\\.util\\.(Arrays|ArrayList|List|Iterator|NoSuchElementException);)"},
        {"3", "\\b(HashMap|HashSet|LinkedList|Object|Long|Double|Float)\\b"}, {"8", "[^\\x00-\\x7f]"}};
    private static final int MOST_CLASSES = 12;
    private static final int MOST_LINES = 60;
    private static final int MOST_PARAMETERS = 7;

    public static void main(String[] args) throws Exception {
        Check check = new Check("LanguageTest");
        Path file = Path.of(args[0], "src", "main", "java", "Lampwick.java");
        String text = Files.readString(file).replaceAll("(?s)/\\*.*?\\*/", "").replaceAll("//.*", "");
        for (String[] rule : FORBIDDEN) {
            Matcher found = Pattern.compile(rule[1], Pattern.MULTILINE).matcher(text);
            check.judge("rule " + rule[0] + ", " + rule[1], "", found.find() ? "found: " + found.group() : "");
        }
        Matcher classes = Pattern.compile("\\b(class|enum|interface|record) [A-Z]").matcher(text);
        check.judge("rule 11, classes", true, classes.results().count() <= MOST_CLASSES);
        checkMethods(check, Files.readAllLines(file));
        Matcher statics = Pattern.compile("static (?!final |abstract |class )[^(=;]*[=;]").matcher(text);
        check.judge("rule 5, static fields are final", false, statics.find());
        check.end();
    }

    private static void checkMethods(Check check, List<String> lines) {
        Pattern start = Pattern.compile("^( {4}| {8})(?!\\s)(?!.*\\bclass\\b).*\\w+\\(.*");
        int open = -1;
        for (int i = 0; i < lines.size(); i++) {
            String line = lines.get(i);
            if (open < 0 && start.matcher(line).matches() && !line.contains(";")) {
                open = i;
                check.judge("rule 11, parameters: " + line.trim(), true, line.split(",").length <= MOST_PARAMETERS);
            } else if (open >= 0 && line.matches("^( {4}| {8})\\}$")) {
                String indent = lines.get(open).replaceAll("\\S.*", "");
                if (line.equals(indent + "}")) {
                    check.judge("rule 11, lines: " + lines.get(open).trim(), true, i - open < MOST_LINES);
                    open = -1;
                }
            }
        }
    }
}
