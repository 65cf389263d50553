import java.util.List;
import java.util.function.Function;

/**
 * Brings to light what a city holds, also what can be seen only by changing it. Each part is for a city of its own, as
 * it changes it, and as an object is used for 512 calls at most.
 */
final class Probe {
    static final List<Function<Lampwick, String>> PARTS = List.of(Digest::works, Digest::fixtures, Digest::sky,
            Probe::settings, Probe::fixtureSettings, Probe::clouds, Probe::walk, Probe::rounds, Probe::room, Probe::hours);

    private Probe() {
    }

    private static String settings(Lampwick city) {
        Answers answers = new Answers();
        answers.add(() -> city.setRetorts(1));
        for (int i = 0; i < 24; i++) {
            int hour = i;
            answers.add(() -> city.setPressure(hour, 1));
        }
        for (int i = 0; i < 12; i++) {
            int main = i;
            answers.add(() -> city.setAge(main, 1));
            answers.add(() -> city.setShut(main, false));
            answers.add(() -> city.setFrozen(main, false));
        }
        for (int i = 0; i < 6; i++) {
            int lighter = i;
            answers.add(() -> city.setIll(lighter, false));
        }
        answers.add(() -> city.setStrike(false));
        answers.add(() -> city.setFog(false));
        answers.add(() -> city.changeLime());
        return answers.text();
    }

    private static String fixtureSettings(Lampwick city) {
        Answers answers = new Answers();
        for (int i = 0; i < 30; i++) {
            int fixture = i;
            answers.add(() -> city.setDemand(fixture, 1));
            answers.add(() -> city.coins(fixture, 1));
            answers.add(() -> city.cutOff(fixture, true));
            answers.add(() -> city.pay(fixture));
            answers.add(() -> city.mend(fixture));
        }
        return answers.text();
    }

    private static String clouds(Lampwick city) {
        Answers answers = new Answers();
        for (int i = 0; i < 200; i++) {
            int day = i;
            answers.add(() -> city.setCloudy(day, false));
        }
        return answers.text();
    }

    private static String walk(Lampwick city) {
        Answers answers = new Answers();
        answers.add(() -> city.next());
        answers.add(() -> city.pause(false));
        for (int i = 0; i < 7; i++) {
            answers.add(() -> city.next());
        }
        return answers.text();
    }

    private static String rounds(Lampwick city) {
        Answers answers = new Answers();
        for (int i = 0; i < 6; i++) {
            int lighter = i;
            for (int k = 0; k < 7; k++) {
                answers.add(() -> city.unassign(lighter));
            }
        }
        return answers.text();
    }

    /** What is there by number, told by the numbers that what is added gets, and when that is refused. */
    private static String room(Lampwick city) {
        Answers answers = new Answers();
        for (int i = 0; i < 12; i++) {
            answers.add(() -> city.charge(0, 99));
            answers.add(() -> city.lay(0, 1, 1, 0));
            answers.add(() -> city.addLighter());
        }
        for (int i = 0; i < 31; i++) {
            answers.add(() -> city.addLamp(0, 0, 0));
        }
        return answers.text();
    }

    private static String hours(Lampwick city) {
        Answers answers = new Answers();
        for (int i = 0; i < 40; i++) {
            answers.add(() -> city.pass(1));
            answers.add(() -> city.account('m') + " " + city.candles() + " " + city.lime() + " " + city.checksum());
        }
        return answers.text();
    }
}
