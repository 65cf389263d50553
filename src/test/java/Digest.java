/** Writes down all that a city tells of itself by calls that change nothing; each part is some 300 calls at most. */
final class Digest {
    private static final int DAYS = 200;

    private Digest() {
    }

    static String of(Lampwick city) {
        return works(city) + fixtures(city) + sky(city);
    }

    static String works(Lampwick city) {
        Answers answers = new Answers();
        answers.add(() -> city.holder() + " " + city.candles() + " " + city.lime() + " " + city.wages());
        answers.add(() -> city.checksum() + " " + city.isSound());
        for (char which : "mblv".toCharArray()) {
            answers.add(() -> city.account(which));
        }
        for (int i = 0; i < 4; i++) {
            int parish = i;
            answers.add(() -> city.owes(parish) + " " + city.fines(parish));
        }
        for (int i = 0; i < 12; i++) {
            int node = i;
            answers.add(() -> city.flow(node) + " " + city.pressure(node));
        }
        for (int i = 0; i < 6; i++) {
            int lighter = i;
            answers.add(() -> city.minutes(lighter) + " " + city.shortest(lighter));
        }
        answers.add(() -> city.litShare() + " " + city.meanHours());
        return answers.text();
    }

    static String fixtures(Lampwick city) {
        Answers answers = new Answers();
        for (int i = 0; i < 30; i++) {
            int fixture = i;
            answers.add(() -> city.state(fixture));
            for (char what : "bgwmdtac".toCharArray()) {
                answers.add(() -> city.of(fixture, what));
            }
        }
        return answers.text();
    }

    static String sky(Lampwick city) {
        Answers answers = new Answers();
        for (int i = 0; i < DAYS; i++) {
            int day = i;
            answers.add(() -> city.moon(day));
        }
        for (int i = 0; i < 24; i++) {
            int hour = i;
            answers.add(() -> city.isDue(hour) + " " + city.isDue(24 * 199 + hour));
        }
        return answers.text();
    }
}
