import java.io.IOException;
import java.nio.file.Files;
import java.nio.file.Path;
import java.util.ArrayList;
import java.util.List;

/**
 * What the document says, row by row, and which of it a boundary test has claimed. The rows of promise 0 are the
 * sentences of its Terms; those of the others are what a call does, its parameters, what it returns and throws.
 */
final class Document {
    private static final int TERMS = 0;

    private record Row(int promise, String text) {
    }

    private final List<Row> rows = new ArrayList<>();
    private final List<Row> claimed = new ArrayList<>();

    Document(Path file) throws IOException {
        int promise = -1;
        for (String line : Files.readAllLines(file)) {
            if (line.startsWith("## ")) {
                promise = promiseOf(line);
            } else if (promise == TERMS) {
                addSentences(line);
            } else if (promise > TERMS && !line.isBlank()) {
                rows.add(new Row(promise, withoutSign(line)));
            }
        }
    }

    private static int promiseOf(String heading) {
        if (heading.equals("## Terms")) {
            return TERMS;
        }
        return heading.startsWith("## Promise ") ? Integer.parseInt(heading.replaceAll("\\D", "")) : -1;
    }

    /** A paragraph's heading, as "Time.", is no sentence of its own. */
    private void addSentences(String paragraph) {
        for (String sentence : paragraph.split("(?<=\\.) (?=[A-Z])")) {
            if (sentence.contains(" ")) {
                rows.add(new Row(TERMS, sentence));
            }
        }
    }

    /** What a call does stands behind its signature, a parameter behind a dash. */
    private static String withoutSign(String line) {
        return line.replaceFirst("^`\\w+ ?\\w*\\(.*\\).*?`: ", "").replaceFirst("^- ", "");
    }

    /** Whether just one row of the promise begins so: then it counts as tested. */
    boolean claim(int promise, String beginning) {
        List<Row> found = new ArrayList<>();
        for (Row row : rows) {
            if (row.promise() == promise && row.text().startsWith(beginning)) {
                found.add(row);
            }
        }
        claimed.addAll(found);
        return found.size() == 1;
    }

    List<String> unclaimed() {
        List<String> left = new ArrayList<>();
        for (Row row : rows) {
            if (!claimed.contains(row)) {
                left.add(row.promise() + " " + row.text());
            }
        }
        return left;
    }

    int size() {
        return rows.size();
    }
}
