/** Writes down all that a city tells of itself by calls that change nothing. */
final class Digest {
    private Digest() {
    }

    static String of(Lampwick city) {
        StringBuilder text = new StringBuilder();
        add(text, () -> city.holder() + " " + city.candles() + " " + city.lime() + " " + city.wages());
        add(text, () -> city.checksum() + " " + city.isSound());
        for (char which : "mblv".toCharArray()) {
            add(text, () -> city.account(which));
        }
        for (int i = 0; i < 4; i++) {
            int parish = i;
            add(text, () -> city.owes(parish) + " " + city.fines(parish));
        }
        for (int i = 0; i < 12; i++) {
            int node = i;
            add(text, () -> city.flow(node) + " " + city.pressure(node));
        }
        for (int i = 0; i < 30; i++) {
            addFixture(text, city, i);
        }
        for (int i = 0; i < 6; i++) {
            int lighter = i;
            add(text, () -> city.minutes(lighter) + " " + city.shortest(lighter));
        }
        for (int i = 0; i < 200; i++) {
            int day = i;
            add(text, () -> "" + city.moon(day) + city.isDue(24 * day) + city.isDue(24 * day + 12));
        }
        add(text, () -> city.litShare() + " " + city.meanHours());
        return text.toString();
    }

    private static void addFixture(StringBuilder text, Lampwick city, int fixture) {
        add(text, () -> city.state(fixture));
        for (char what : "bgwmdtac".toCharArray()) {
            add(text, () -> city.of(fixture, what));
        }
    }

    private static void add(StringBuilder text, Check.Call call) {
        try {
            text.append(call.answer());
        } catch (RuntimeException e) {
            text.append(e.getClass().getSimpleName());
        }
        text.append(';');
    }
}
