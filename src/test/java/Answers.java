/** Writes down the answers of calls, an exception by its name. */
final class Answers {
    private final StringBuilder text = new StringBuilder();

    void add(Check.Call call) {
        try {
            text.append(call.answer());
        } catch (RuntimeException e) {
            text.append(e.getClass().getSimpleName());
        }
        text.append(';');
    }

    String text() {
        return text.toString();
    }
}
