import java.util.NoSuchElementException;

/** Bounds of lighters, rounds, minutes, wages and what is lit: the Terms' "Rounds", and promises 24 to 28, 30, 31, 43. */
final class RoundsBounds {
    private final Boundaries bounds;

    RoundsBounds(Boundaries bounds) {
        this.bounds = bounds;
    }

    void test() {
        numbersAndRounds();
        tenthsOfTheWay();
        fogDoublesAll();
        litOrPutOut();
        minuteReached();
        illAndStrike();
        wageOfEachLamp();
        closedMains();
        pressureAt5();
        lampsLitAhead();
        lampsLitByOthers();
        brokenMantles();
        emptyHolder();
        addLighter();
        assign();
        assignRefused();
        unassign();
        setIll();
        setStrike();
        go();
        minutes();
        wages();
    }

    private static Lampwick lighters(int count) {
        Lampwick x = new Lampwick();
        for (int i = 0; i < count; i++) {
            x.addLighter();
        }
        return x;
    }

    /** Eight lamps, 1 to 8, of which the round of lighter 0 has the first so many; fixture 0 is a service. */
    private static Lampwick round(int size) {
        Lampwick x = Cities.holding(1000);
        for (int i = 1; i <= 8; i++) {
            x.addLamp(0, 10 * i, 0);
        }
        x.addLighter();
        x.addLighter();
        for (int i = 1; i <= size; i++) {
            x.assign(0, i);
        }
        return x;
    }

    private void numbersAndRounds() {
        bounds.term("At most 6 lighters are numbered from 0, each with a round of at most 6 lamps");
        Lampwick x = new Lampwick();
        for (int i = 0; i < 30; i++) {
            x.addLamp(0, 0, 0);
        }
        for (int i = 0; i < 6; i++) {
            int lighter = i;
            bounds.same("lighter " + i, lighter, () -> x.addLighter());
        }
        bounds.refused("a 7th lighter", IllegalStateException.class, () -> lighters(6), city -> city.addLighter());
        for (int i = 0; i < 6; i++) {
            int lighter = i;
            for (int k = 0; k < 6; k++) {
                int lamp = (7 * lighter + 11 * k) % 30;
                int size = k + 1;
                bounds.same("lamp " + lamp + " to " + lighter, size, () -> x.assign(lighter, lamp));
            }
        }
        bounds.refused("a 7th lamp", IllegalStateException.class, () -> round(6), city -> city.assign(0, 7));
        bounds.refused("one twice", UnsupportedOperationException.class, () -> round(5), city -> city.assign(0, 5));
        for (int i = 0; i < 6; i++) {
            int lighter = i;
            for (int k = 5; k >= 0; k--) {
                int lamp = (7 * lighter + 11 * k) % 30;
                bounds.same("of " + lighter + ", in its order", lamp, () -> x.unassign(lighter));
            }
        }
    }

    private void tenthsOfTheWay() {
        bounds.term("Walking from a place to another one takes a tenth, cut,");
        int[][] ways = {{0, 0}, {1, 0}, {9, 0}, {10, 1}, {11, 1}, {19, 1}, {20, 2}, {989, 98}, {990, 99}, {998, 99}, {999, 99}};
        for (int[] way : ways) {
            int there = way[1] + 1;
            String call = "0 to " + way[0];
            bounds.same(call, there, () -> Cities.street(way[0]).minutes(0));
            bounds.same(call + " and back", 2 * there, () -> Cities.street(way[0], 0).minutes(0));
            bounds.same(call + ", from the far end", 100 + there, () -> Cities.street(999, 999 - way[0]).minutes(0));
        }
        bounds.same("each way is cut", 3, () -> Cities.street(9, 18, 27).minutes(0));
        bounds.same("back and forth", 2 + 1 + 2 + 1, () -> Cities.street(14, 5, 15, 6).minutes(0));
        Lampwick x = Cities.street(100, 200);
        bounds.same("begins at the place 0", 22, () -> x.minutes(0));
        x.go(0, true);
        bounds.same("again, not where the last one ended", 22, () -> x.minutes(0));
    }

    private void fogDoublesAll() {
        for (int place : new int[] {0, 5, 9, 10, 15, 19, 20, 990, 999}) {
            Lampwick x = Cities.street(place);
            x.setFog(true);
            bounds.same("in fog to " + place, 2 * (place / 10 + 1), () -> x.minutes(0));
            x.setFog(false);
            bounds.same("fog is over, to " + place, place / 10 + 1, () -> x.minutes(0));
        }
        Lampwick x = Cities.street(15, 25, 9);
        x.setFog(true);
        bounds.same("in fog, a round", 2 * (2 + 2 + 2), () -> x.minutes(0));
        x.go(0, true);
        for (int i = 1; i <= 3; i++) {
            int lamp = i;
            bounds.same("in fog, lit at", 4 * lamp, () -> x.of(lamp, 'm'));
        }
    }

    private void litOrPutOut() {
        bounds.term("To go a round lights, or puts out, its lamps,");
        for (int size = 0; size <= 6; size++) {
            int lamps = size;
            Lampwick x = round(lamps);
            bounds.same(lamps + " out, put out", 0, () -> x.go(0, false));
            bounds.same(lamps + " lit", lamps, () -> x.go(0, true));
            bounds.same(lamps + " lit already", 0, () -> x.go(0, true));
            for (int i = 1; i <= 8; i++) {
                int lamp = i;
                bounds.same("lamp " + i + " of " + lamps, i <= lamps ? 'l' : 'o', () -> x.state(lamp));
            }
            bounds.same(lamps + " put out", lamps, () -> x.go(0, false));
            bounds.same(lamps + " out already", 0, () -> x.go(0, false));
            for (int i = 1; i <= 8; i++) {
                int lamp = i;
                bounds.same("lamp " + i + " of " + lamps + ", then", 'o', () -> x.state(lamp));
            }
        }
        Lampwick some = round(3);
        some.assign(1, 2);
        some.go(1, true);
        bounds.same("one lit ahead by another", 2, () -> some.go(0, true));
        some.go(1, false);
        bounds.same("one put out ahead by another", 2, () -> some.go(0, false));
    }

    private void minuteReached() {
        Lampwick x = round(3);
        x.assign(1, 2);
        bounds.same("never", -1, () -> x.of(2, 'm'));
        x.go(1, false);
        bounds.same("never changed, never told", -1, () -> x.of(2, 'm'));
        x.go(1, true);
        bounds.same("by the second lighter alone", 3, () -> x.of(2, 'm'));
        x.go(0, true);
        bounds.same("of the first one's round", 2, () -> x.of(1, 'm'));
        bounds.same("lit already, its minute stays", 3, () -> x.of(2, 'm'));
        bounds.same("but it was walked to", 6, () -> x.of(3, 'm'));
        x.pass(3);
        bounds.same("hours leave it", 6, () -> x.of(3, 'm'));
        x.go(0, false);
        bounds.same("counted from the beginning of another hour", 4, () -> x.of(2, 'm'));
        x.go(0, false);
        bounds.same("out already, stays", 4, () -> x.of(2, 'm'));
        x.addLamp(0, 999, 0);
        x.addLamp(0, 0, 0);
        x.unassign(1);
        x.assign(1, 9);
        x.assign(1, 10);
        x.go(1, true);
        bounds.same("above 59", 100, () -> x.of(9, 'm'));
        bounds.same("above 59 by far", 200, () -> x.of(10, 'm'));
    }

    private void illAndStrike() {
        for (boolean isLighting : new boolean[] {true, false}) {
            bounds.refused("ill", UnsupportedOperationException.class, () -> hindered(true, false),
                    city -> city.go(0, isLighting));
            bounds.refused("in a strike", UnsupportedOperationException.class, () -> hindered(false, true),
                    city -> city.go(0, isLighting));
            bounds.refused("ill, in a strike", UnsupportedOperationException.class, () -> hindered(true, true),
                    city -> city.go(0, isLighting));
            bounds.refused("in a strike, another one, without lamps", UnsupportedOperationException.class,
                    () -> hindered(false, true), city -> city.go(1, isLighting));
        }
        Lampwick x = hindered(true, false);
        bounds.same("another one goes", 0, () -> x.go(1, true));
        x.setIll(0, false);
        bounds.same("well again", 3, () -> x.go(0, true));
        x.setStrike(true);
        bounds.same("minutes in a strike", 6, () -> x.minutes(0));
        bounds.same("a walk in a strike", 3, () -> x.walk(0));
        x.setStrike(false);
        bounds.same("the strike is over", 3, () -> x.go(0, false));
    }

    private static Lampwick hindered(boolean isIll, boolean isStrike) {
        Lampwick x = round(3);
        x.setIll(0, isIll);
        x.setStrike(isStrike);
        return x;
    }

    private void wageOfEachLamp() {
        bounds.term("A wage of 1 is due for each lamp of it, changed or not.");
        for (int size = 0; size <= 6; size++) {
            int lamps = size;
            Lampwick x = round(lamps);
            x.go(0, true);
            bounds.same(lamps + " changed", lamps, () -> x.wages());
            x.go(0, true);
            bounds.same(lamps + " not changed", 2 * lamps, () -> x.wages());
            x.go(0, false);
            bounds.same(lamps + " put out", 3 * lamps, () -> x.wages());
            x.setPressure(0, 1);
            x.setPressure(1, 1);
            x.setPressure(2, 1);
            x.go(0, true);
            bounds.same(lamps + " that can't be lit", 4 * lamps, () -> x.wages());
        }
    }

    /** Lamps 1, 2 and 3 at the nodes 1, 2 and 0, in the round of lighter 0; main 2 is behind main 1. */
    private static Lampwick behindMains() {
        Lampwick x = Cities.holding(1000);
        x.lay(0, 1, 9, 0);
        x.lay(1, 1, 9, 0);
        x.addLamp(1, 100, 0);
        x.addLamp(2, 50, 0);
        x.addLamp(0, 70, 0);
        x.addLighter();
        for (int lamp = 1; lamp <= 3; lamp++) {
            x.assign(0, lamp);
        }
        return x;
    }

    private void closedMains() {
        bounds.term("A lamp behind a main that is shut or frozen, at a pressure below 5 by then,");
        for (int main = 1; main <= 2; main++) {
            for (boolean isByFrost : new boolean[] {true, false}) {
                int closed = main;
                Lampwick x = behindMains();
                boolean was = isByFrost ? x.setFrozen(closed, true) : x.setShut(closed, true);
                String call = (isByFrost ? "frozen " : "shut ") + main + " (was " + was + ")";
                bounds.same(call + ", lit", closed, () -> x.go(0, true));
                bounds.same(call + ", first lamp", closed == 1 ? 'o' : 'l', () -> x.state(1));
                bounds.same(call + ", second lamp", 'o', () -> x.state(2));
                bounds.same(call + ", the last is reached by way of them", 11 + 6 + 3, () -> x.of(3, 'm'));
                bounds.same(call + ", wages of all", 3, () -> x.wages());
                boolean is = isByFrost ? x.setFrozen(closed, false) : x.setShut(closed, false);
                bounds.same(call + " until " + is + ", the rest is lit", 3 - closed, () -> x.go(0, true));
                x.setShut(closed, true);
                bounds.same(call + ", put out behind it", 3, () -> x.go(0, false));
            }
        }
    }

    private void pressureAt5() {
        for (int pressure : new int[] {1, 4, 5, 6, 60}) {
            Lampwick x = round(2);
            Cities.setAllPressures(x, pressure);
            bounds.same("at " + pressure, pressure < 5 ? 0 : 2, () -> x.go(0, true));
        }
        int[][] cases = {{5, -1, 0}, {5, 0, 1}, {5, 1, 1}, {4, 19, 0}, {4, 20, 1}, {4, 21, 1}, {7, -41, 0}, {7, -40, 1},
            {7, -39, 1}};
        for (int[] told : cases) {
            Lampwick x = lampsBehind(told[1], 1);
            Cities.setAllPressures(x, told[0]);
            String call = "works at " + told[0] + ", rise " + told[1];
            bounds.same(call, told[2], () -> x.go(0, true));
            bounds.same(call + ", state", told[2] == 1 ? 'l' : 'o', () -> x.state(0));
            bounds.same(call + ", minute", told[2] == 1 ? 1 : -1, () -> x.of(0, 'm'));
            bounds.same(call + ", put out", told[2], () -> x.go(0, false));
        }
        Lampwick low = lampsBehind(0, 1);
        low.go(0, true);
        Cities.setAllPressures(low, 4);
        bounds.same("put out at 4", 1, () -> low.go(0, false));
    }

    /** Lamps from 0 on behind a main in which a flow of 5 takes 1 of the pressure, 10 take 4 and 15 take 9. */
    private static Lampwick lampsBehind(int rise, int lamps) {
        Lampwick x = new Lampwick();
        x.lay(0, 4, 1, rise);
        x.addLighter();
        for (int i = 0; i < lamps; i++) {
            x.addLamp(1, 0, 0);
            x.assign(0, i);
        }
        return x;
    }

    private void lampsLitAhead() {
        int[][] cases = {{5, 0, 1}, {6, -1, 1}, {6, 0, 2}, {6, 1, 2}, {9, -1, 2}, {9, 0, 3}, {9, 1, 3}, {14, -1, 3}, {14, 0, 4},
            {13, 19, 3}, {13, 20, 4}};
        for (int[] told : cases) {
            Lampwick x = lampsBehind(told[1], 5);
            Cities.setAllPressures(x, told[0]);
            String call = "works at " + told[0] + ", rise " + told[1];
            bounds.same(call + ", lit", told[2], () -> x.go(0, true));
            for (int i = 0; i < 5; i++) {
                int lamp = i;
                bounds.same(call + ", lamp " + i, i < told[2] ? 'l' : 'o', () -> x.state(lamp));
            }
            bounds.same(call + ", no more by going again", 0, () -> x.go(0, true));
            bounds.same(call + ", wages", 10, () -> x.wages());
        }
    }

    /** What another lighter has lit, and what services ask for, draws too; a lamp that is lit already stays so. */
    private void lampsLitByOthers() {
        Lampwick x = lampsBehind(0, 3);
        Cities.setAllPressures(x, 6);
        x.addLighter();
        x.assign(1, 2);
        bounds.same("the last one first", 1, () -> x.go(1, true));
        bounds.same("then one more", 1, () -> x.go(0, true));
        bounds.same("the first", 'l', () -> x.state(0));
        bounds.same("not the second", 'o', () -> x.state(1));
        bounds.same("the last stays lit", 'l', () -> x.state(2));
        Lampwick y = lampsBehind(0, 1);
        Cities.setAllPressures(y, 9);
        y.addService(1, 10, 100, true);
        y.addService(1, 1, 100, false);
        bounds.same("by coins, with none", 1, () -> y.go(0, true));
        y.go(0, false);
        y.coins(1, 1);
        bounds.same("with one", 0, () -> y.go(0, true));
        y.cutOff(2, true);
        bounds.same("at 5", 1, () -> y.go(0, true));
    }

    private void brokenMantles() {
        for (int hours : new int[] {0, 1, 58, 59, 60, 61}) {
            Lampwick x = Cities.worn(hours);
            x.addLamp(0, 20, 0);
            x.assign(0, 2);
            x.go(0, false);
            boolean isBroken = hours >= 60;
            bounds.same("worn by " + hours, isBroken ? 1 : 2, () -> x.go(0, true));
            bounds.same("worn by " + hours + ", state", isBroken ? 'b' : 'l', () -> x.state(1));
            bounds.same("worn by " + hours + ", walked to", 1 + 3, () -> x.of(2, 'm'));
            x.mend(1);
            bounds.same("mended", isBroken ? 1 : 0, () -> x.go(0, true));
        }
    }

    private void emptyHolder() {
        Lampwick x = lighters(1);
        x.addLamp(0, 0, 0);
        x.assign(0, 0);
        bounds.same("nothing in it", 0, () -> x.holder());
        bounds.same("lit all the same", 1, () -> x.go(0, true));
        x.pass(1);
        bounds.same("until the hour goes by", 'o', () -> x.state(0));
    }

    private void addLighter() {
        bounds.row(24, "Adds a lighter with an empty round.");
        bounds.row(24, "Returns the number.");
        Lampwick x = new Lampwick();
        for (int i = 0; i < 6; i++) {
            int lighter = i;
            bounds.same("the number", lighter, () -> x.addLighter());
            bounds.same("empty: no minutes", 0, () -> x.minutes(lighter));
            bounds.same("empty: no walk", 0, () -> x.walk(lighter));
            bounds.same("well", 0, () -> x.go(lighter, true));
            bounds.refused("empty", NoSuchElementException.class, () -> lighters(lighter + 1), city -> city.unassign(lighter));
        }
        bounds.row(24, "Throws `IllegalStateException` if there are 6");
        bounds.same("a 5th", 4, () -> lighters(4).addLighter());
        bounds.same("a 6th", 5, () -> lighters(5).addLighter());
        bounds.refused("a 7th", IllegalStateException.class, () -> lighters(6), city -> city.addLighter());
        bounds.refused("a 7th of a full city", IllegalStateException.class, Cities::full, city -> city.addLighter());
    }

    private void assign() {
        bounds.row(25, "Adds a lamp to the end of a round.");
        bounds.row(25, "Returns how many lamps the round has.");
        Lampwick x = round(0);
        for (int size = 1; size <= 6; size++) {
            int due = size;
            bounds.same("lamps", due, () -> x.assign(0, 9 - due));
        }
        bounds.same("of another round, one of this", 1, () -> x.assign(1, 8));
        x.walk(0);
        for (int lamp = 8; lamp >= 3; lamp--) {
            int due = lamp;
            bounds.same("each at the end", due, () -> x.next());
        }
        bounds.row(25, "`lighter`: the lighter");
        bounds.row(25, "`fixture`: the lamp");
        bounds.row(25, "Throws `IndexOutOfBoundsException` if there is no such lighter or fixture");
        bounds.index(0, 1, () -> round(2), (city, lighter) -> city.assign(lighter, 3), lighter -> lighter == 0 ? 3 : 1);
        bounds.index(0, 5, RoundsBounds::lampsAndLighters, (city, lighter) -> city.assign(lighter, 1), lighter -> 1);
        bounds.index(0, 29, RoundsBounds::lampsAndLighters, (city, lamp) -> city.assign(5, lamp), lamp -> 1);
        bounds.refused("no lighter at first", IndexOutOfBoundsException.class, RoundsBounds::oneLamp,
                city -> city.assign(0, 0));
        bounds.refused("no lamp at first", IndexOutOfBoundsException.class, () -> lighters(1), city -> city.assign(0, 0));
        bounds.refused("neither", IndexOutOfBoundsException.class, Lampwick::new, city -> city.assign(0, 0));
    }

    private static Lampwick oneLamp() {
        Lampwick x = new Lampwick();
        x.addLamp(0, 0, 0);
        return x;
    }

    private static Lampwick lampsAndLighters() {
        Lampwick x = lighters(6);
        for (int i = 0; i < 30; i++) {
            x.addLamp(0, i, 0);
        }
        return x;
    }

    private void assignRefused() {
        bounds.row(25, "Throws `UnsupportedOperationException` if it is no lamp, or in this round");
        for (int size = 0; size <= 6; size++) {
            int lamps = size;
            bounds.refused("a service to " + lamps, UnsupportedOperationException.class, () -> round(lamps),
                    city -> city.assign(0, 0));
            for (int i = 1; i <= lamps; i++) {
                int lamp = i;
                bounds.refused("lamp " + i + " of " + lamps, UnsupportedOperationException.class, () -> round(lamps),
                        city -> city.assign(0, lamp));
            }
            bounds.same("in another round, of " + lamps, 1, () -> round(lamps).assign(1, 1));
        }
        bounds.refused("a service by coins", UnsupportedOperationException.class, Cities::small, city -> city.assign(1, 3));
        Lampwick x = round(6);
        x.unassign(0);
        bounds.same("one that was in it", 6, () -> x.assign(0, 6));
        bounds.row(25, "Throws `IllegalStateException` if the round has 6");
        for (int lamp : new int[] {7, 8}) {
            bounds.same("a 5th", 5, () -> round(4).assign(0, lamp));
            bounds.same("a 6th", 6, () -> round(5).assign(0, lamp));
            bounds.refused("a 7th", IllegalStateException.class, () -> round(6), city -> city.assign(0, lamp));
        }
        bounds.refused("a 7th of a full city", IllegalStateException.class, Cities::full, city -> city.assign(0, 28));
    }

    private void unassign() {
        bounds.row(26, "Takes the last lamp from a round.");
        bounds.row(26, "Returns the lamp.");
        Lampwick x = round(6);
        for (int lamp = 6; lamp >= 1; lamp--) {
            int due = lamp;
            bounds.same("the last", due, () -> x.unassign(0));
            bounds.same("the others stay", 2 * (due - 1), () -> x.minutes(0));
        }
        bounds.row(26, "`lighter`: the lighter");
        bounds.row(26, "Throws `IndexOutOfBoundsException` if there is no such lighter");
        bounds.index(0, 0, RoundsBounds::oneLighter, (city, lighter) -> city.unassign(lighter), lighter -> 0);
        bounds.index(0, 5, RoundsBounds::sixLighters, (city, lighter) -> city.unassign(lighter), lighter -> lighter);
        bounds.refused("no lighter at first", IndexOutOfBoundsException.class, Lampwick::new, city -> city.unassign(0));
        bounds.row(26, "Throws `NoSuchElementException` if it has none");
        bounds.refused("none at first", NoSuchElementException.class, () -> lighters(1), city -> city.unassign(0));
        bounds.refused("none of this one", NoSuchElementException.class, Cities::small, city -> city.unassign(1));
        bounds.same("just one", 1, () -> round(1).unassign(0));
        bounds.refused("none left", NoSuchElementException.class, () -> {
            Lampwick one = round(1);
            one.unassign(0);
            return one;
        }, city -> city.unassign(0));
    }

    private static Lampwick oneLighter() {
        Lampwick x = lighters(1);
        x.addLamp(0, 0, 0);
        x.assign(0, 0);
        return x;
    }

    /** Lighter n has lamp n alone, at the place 100 n. */
    private static Lampwick sixLighters() {
        Lampwick x = lighters(6);
        for (int i = 0; i < 6; i++) {
            x.addLamp(0, 100 * i, 0);
            x.assign(i, i);
        }
        return x;
    }

    private void setIll() {
        bounds.row(27, "Tells whether a lighter is ill.");
        bounds.row(27, "`is`: whether the lighter is");
        bounds.row(27, "Returns whether the lighter was.");
        Lampwick x = lighters(6);
        for (int i = 0; i < 6; i++) {
            int lighter = i;
            bounds.same("not at first", false, () -> x.setIll(lighter, false));
            bounds.same("not still", false, () -> x.setIll(lighter, true));
            bounds.same("ill", true, () -> x.setIll(lighter, true));
            bounds.same("ill still", true, () -> x.setIll(lighter, false));
            bounds.same("not again", false, () -> x.setIll(lighter, false));
        }
        bounds.row(27, "`lighter`: the lighter");
        bounds.row(27, "Throws `IndexOutOfBoundsException` if there is no such lighter");
        for (boolean is : new boolean[] {true, false}) {
            bounds.index(0, 0, RoundsBounds::oneLighter, (city, lighter) -> city.setIll(lighter, is), lighter -> false);
            bounds.index(0, 5, Cities::full, (city, lighter) -> city.setIll(lighter, is), lighter -> false);
            bounds.refused("none at first", IndexOutOfBoundsException.class, Lampwick::new, city -> city.setIll(0, is));
        }
    }

    private void setStrike() {
        bounds.row(28, "Tells whether there is a strike.");
        bounds.row(28, "`is`: whether there is");
        bounds.row(28, "Returns whether there was.");
        Lampwick x = new Lampwick();
        bounds.same("none at first", false, () -> x.setStrike(false));
        bounds.same("none still", false, () -> x.setStrike(true));
        bounds.same("a strike", true, () -> x.setStrike(true));
        bounds.same("a strike still", true, () -> x.setStrike(false));
        bounds.same("none again", false, () -> x.setStrike(false));
    }

    private void go() {
        bounds.row(30, "Lets a lighter go the round.");
        bounds.row(30, "`isLighting`: whether lamps are lit, otherwise put out");
        bounds.row(30, "Returns how many lamps are lit, or put out, by that.");
        Lampwick x = round(6);
        bounds.same("put out, all out", 0, () -> x.go(0, false));
        bounds.same("lit, all out", 6, () -> x.go(0, true));
        bounds.same("lit, all lit", 0, () -> x.go(0, true));
        bounds.same("put out, all lit", 6, () -> x.go(0, false));
        bounds.same("an empty round, lit", 0, () -> x.go(1, true));
        bounds.same("an empty round, put out", 0, () -> x.go(1, false));
        bounds.row(30, "`lighter`: the lighter");
        bounds.row(30, "Throws `IndexOutOfBoundsException` if there is no such lighter");
        bounds.index(0, 0, RoundsBounds::oneLighter, (city, lighter) -> city.go(lighter, true), lighter -> 1);
        bounds.index(0, 5, RoundsBounds::sixLighters, (city, lighter) -> city.go(lighter, true), lighter -> 1);
        bounds.index(0, 5, RoundsBounds::sixLighters, (city, lighter) -> city.go(lighter, false), lighter -> 0);
        bounds.refused("none at first", IndexOutOfBoundsException.class, Lampwick::new, city -> city.go(0, true));
        bounds.row(30, "Throws `UnsupportedOperationException` if the lighter is ill, or there is a strike");
        for (int lighter = 0; lighter < 6; lighter++) {
            int told = lighter;
            bounds.refused("ill, " + told, UnsupportedOperationException.class, () -> {
                Lampwick ill = sixLighters();
                ill.setIll(told, true);
                return ill;
            }, city -> city.go(told, true));
            bounds.refused("in a strike, " + told, UnsupportedOperationException.class, () -> {
                Lampwick strike = sixLighters();
                strike.setStrike(true);
                return strike;
            }, city -> city.go(told, true));
        }
    }

    private void minutes() {
        bounds.row(31, "Returns how many minutes a round takes by now.");
        bounds.row(31, "Returns the minutes.");
        bounds.same("an empty round", 0, () -> lighters(1).minutes(0));
        for (int size = 0; size <= 6; size++) {
            int lamps = size;
            Lampwick x = round(lamps);
            bounds.same(lamps + " lamps", 2 * lamps, () -> x.minutes(0));
            x.setFog(true);
            bounds.same(lamps + " lamps, in fog by now", 4 * lamps, () -> x.minutes(0));
            x.setIll(0, true);
            x.setStrike(true);
            bounds.same(lamps + " lamps, of one who is ill, in a strike", 4 * lamps, () -> x.minutes(0));
        }
        bounds.same("the longest", 600, () -> Cities.street(999, 0, 999, 0, 999, 0).minutes(0));
        bounds.row(31, "`lighter`: the lighter");
        bounds.row(31, "Throws `IndexOutOfBoundsException` if there is no such lighter");
        bounds.index(0, 0, RoundsBounds::oneLighter, (city, lighter) -> city.minutes(lighter), lighter -> 1);
        bounds.index(0, 5, RoundsBounds::sixLighters, (city, lighter) -> city.minutes(lighter), lighter -> 10 * lighter + 1);
        bounds.refused("none at first", IndexOutOfBoundsException.class, Lampwick::new, city -> city.minutes(0));
    }

    private void wages() {
        bounds.row(43, "Returns the wages that are due in all.");
        bounds.row(43, "Returns the sum.");
        bounds.same("none at first", 0, () -> new Lampwick().wages());
        bounds.same("an empty round", 0, () -> {
            Lampwick x = lighters(1);
            x.go(0, true);
            return x.wages();
        });
        Lampwick x = sixLighters();
        for (int i = 0; i < 6; i++) {
            int due = i + 1;
            x.go(i, i % 2 == 0);
            bounds.same("by lighter " + i, due, () -> x.wages());
        }
        x.minutes(0);
        x.shortest(0);
        x.arrange(0);
        x.walk(0);
        x.next();
        x.pass(48);
        bounds.same("for rounds that are gone alone", 6, () -> x.wages());
        Lampwick full = Cities.full();
        int before = full.wages();
        for (int i = 1; i <= 20; i++) {
            int due = before + 6 * i;
            full.go(i % 6, true);
            bounds.same("for full rounds", due, () -> full.wages());
        }
    }
}
