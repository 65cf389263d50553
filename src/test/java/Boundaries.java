import java.util.function.Function;
import java.util.function.IntFunction;
import java.util.function.Supplier;

/** Checks answers at bounds, each for the row of the document that names the bound. */
final class Boundaries {
    /** A call on a city, or some of them. */
    interface CityCall {
        Object on(Lampwick city);
    }

    /** A call on a city with a number that has bounds. */
    interface NumberCall {
        Object on(Lampwick city, int number);
    }

    private final Check check;
    private final Document document;
    private String row = "";

    Boundaries(Check check, Document document) {
        this.check = check;
        this.document = document;
    }

    /** What follows is the test of the row that begins so. */
    void row(int promise, String beginning) {
        row = promise + " \"" + beginning + "\": ";
        check.judge(row + "is one row of the document", true, document.claim(promise, beginning));
    }

    void term(String beginning) {
        row(0, beginning);
    }

    void same(String call, Object due, Check.Call made) {
        check.same(row + call, due, made);
    }

    /** The call is refused so, and leaves the city in each thing as one in which it wasn't made. */
    void refused(String call, Class<? extends RuntimeException> due, Supplier<Lampwick> built, CityCall made) {
        Lampwick asked = built.get();
        String before = Digest.works(asked);
        check.refuses(row + call, due, () -> made.on(asked));
        check.judge(row + call + ", before and after", before, Digest.works(asked));
        for (Function<Lampwick, String> part : Probe.PARTS) {
            Lampwick refusing = built.get();
            check.refuses(row + call, due, () -> made.on(refusing));
            check.judge(row + call + ", changes nothing", part.apply(built.get()), part.apply(refusing));
        }
    }

    /** A number that is refused as out of range just outside its bounds and far off, and not at them or just inside. */
    void range(int least, int most, Supplier<Lampwick> built, NumberCall made, IntFunction<Object> due) {
        bounds(IllegalArgumentException.class, least, most, built, made, due);
    }

    /** The number of a node, main, fixture or lighter. */
    void index(int least, int most, Supplier<Lampwick> built, NumberCall made, IntFunction<Object> due) {
        bounds(IndexOutOfBoundsException.class, least, most, built, made, due);
    }

    private void bounds(Class<? extends RuntimeException> refusal, int least, int most, Supplier<Lampwick> built,
            NumberCall made, IntFunction<Object> due) {
        for (int wrong : new int[] {least - 1, most + 1, Integer.MIN_VALUE, Integer.MAX_VALUE}) {
            refused("with " + wrong, refusal, built, city -> made.on(city, wrong));
        }
        for (int right : new int[] {least, least + 1, most - 1, most}) {
            if (right >= least && right <= most) {
                same("with " + right, due.apply(right), () -> made.on(built.get(), right));
            }
        }
    }
}
