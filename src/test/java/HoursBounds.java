/** Bounds of what an hour draws, burns, wears and fines: the Terms' "An hour goes by", and promises 41, 42 and 48. */
final class HoursBounds {
    private static final int LAMP = 1;

    private final Boundaries bounds;

    HoursBounds(Boundaries bounds) {
        this.bounds = bounds;
    }

    void test() {
        retortsFirst();
        enoughForAll();
        pressureToBurn();
        pressureToBurnBehindMains();
        lowPressureIsNotDrawn();
        pressuresOfThatMoment();
        leaksAlone();
        wear();
        wearAbove40();
        brokenAt60();
        mantleIsKept();
        lampHoursOwed();
        serviceHours();
        coinHours();
        outWhenNotBurning();
        darkWhenDue();
        notDarkWhenBurning();
        owes();
        fines();
        isSound();
    }

    private void retortsFirst() {
        bounds.term("An hour goes by in this order: retorts; then, by pressures and flows");
        for (int demand : new int[] {89, 90, 91}) {
            Lampwick x = new Lampwick();
            x.addService(0, demand, 100, false);
            x.setRetorts(1);
            x.charge(0, 1);
            x.pass(1);
            int burnt = demand > 90 ? 0 : demand;
            bounds.same("90 made, " + demand + " asked for", burnt, () -> x.of(0, 'g'));
            bounds.same("90 made, " + demand + " asked for, left", 90 - burnt, () -> x.holder());
        }
    }

    /** Leaks of 20; a lit lamp, number 1, a service of 30 and one by coins of 10 at a node behind the leaking main. */
    private static Lampwick asking(int holder) {
        Lampwick x = Cities.holding(holder);
        x.lay(0, 50, 9, 0);
        x.setAge(1, 40);
        x.addLamp(1, 0, 2);
        x.addService(1, 30, 100, false);
        x.addService(1, 10, 100, true);
        x.coins(3, 5);
        x.addLighter();
        x.assign(0, LAMP);
        x.go(0, true);
        return x;
    }

    private void enoughForAll() {
        for (int holder : new int[] {64, 65, 66, 20000}) {
            Lampwick x = asking(holder);
            x.pass(1);
            boolean isEnough = holder >= 65;
            bounds.same(holder + " for 65, left", isEnough ? holder - 65 : holder - 20, () -> x.holder());
            bounds.same(holder + " for 65, the lamp", isEnough ? 5 : 0, () -> x.of(LAMP, 'g'));
            bounds.same(holder + " for 65, a service", isEnough ? 30 : 0, () -> x.of(2, 'g'));
            bounds.same(holder + " for 65, one by coins", isEnough ? 10 : 0, () -> x.of(3, 'g'));
            bounds.same(holder + " for 65, leaks", 20L, () -> x.account('l'));
            bounds.same(holder + " for 65, state", isEnough ? 'l' : 'o', () -> x.state(LAMP));
        }
        Lampwick nothing = new Lampwick();
        nothing.addService(0, 0, 100, false);
        nothing.pass(1);
        bounds.same("0 for 0", 0, () -> nothing.holder());
        bounds.same("0 for 0 is no hour burnt", 0, () -> nothing.of(0, 'b'));
    }

    private void pressureToBurn() {
        for (int pressure : new int[] {1, 4, 5, 6, 60}) {
            Lampwick x = Cities.street(0);
            x.addService(0, 30, 100, false);
            x.go(0, true);
            Cities.setAllPressures(x, pressure);
            x.pass(1);
            boolean isBurning = pressure >= 5;
            bounds.same("at " + pressure + ", the lamp", isBurning ? 1 : 0, () -> x.of(LAMP, 'b'));
            bounds.same("at " + pressure + ", the service", isBurning ? 1 : 0, () -> x.of(2, 'b'));
            bounds.same("at " + pressure + ", drawn", isBurning ? 9965 : 10000, () -> x.holder());
        }
    }

    /** A flow of 10 takes 1 of the pressure in a main of length 1 and diameter 1; a rise of 1 is a twentieth. */
    private void pressureToBurnBehindMains() {
        int[][] cases = {{6, -1, 0}, {6, 0, 1}, {6, 1, 1}, {5, 19, 0}, {5, 20, 1}, {5, 21, 1}, {8, -41, 0}, {8, -40, 1}};
        for (int[] told : cases) {
            Lampwick x = Cities.holding(100);
            x.lay(0, 1, 1, told[1]);
            x.addService(1, 10, 100, false);
            Cities.setAllPressures(x, told[0]);
            x.pass(1);
            String call = "works at " + told[0] + ", rise " + told[1];
            bounds.same(call + ", hours", told[2], () -> x.of(LAMP, 'b'));
            bounds.same(call + ", drawn", 100 - 10 * told[2], () -> x.holder());
        }
    }

    private void lowPressureIsNotDrawn() {
        for (int holder : new int[] {29, 30, 31}) {
            Lampwick x = Cities.holding(holder);
            x.lay(0, 50, 1, 0);
            x.setAge(1, 40);
            x.addService(1, 99, 100, false);
            x.addService(0, 10, 100, false);
            x.pass(1);
            int burnt = holder < 30 ? 0 : 10;
            bounds.same(holder + ", far below 5", true, () -> x.pressure(1) < 5f);
            bounds.same(holder + ", its leaks are drawn", 20L, () -> x.account('l'));
            bounds.same(holder + ", what is asked for there is not, nor missed", burnt, () -> x.of(2, 'g'));
            bounds.same(holder + ", left", holder - 20 - burnt, () -> x.holder());
            bounds.same(holder + ", nothing burns there", 0, () -> x.of(1, 'g'));
            bounds.same(holder + ", nor is metered", 0, () -> x.of(1, 't') + x.of(1, 'a') + x.of(1, 'b'));
        }
    }

    /** What is asked for by a lamp that goes out, or for the last coins, counts in the hour in which it is asked for. */
    private void pressuresOfThatMoment() {
        Lampwick x = Cities.holding(1000);
        x.lay(0, 1, 1, 0);
        x.addService(1, 10, 100, true);
        x.addService(1, 10, 100, false);
        x.coins(1, 1);
        Cities.setAllPressures(x, 8);
        x.pass(1);
        bounds.same("a flow of 20 takes 4: none burns", 0, () -> x.of(1, 'g') + x.of(2, 'g'));
        x.cutOff(2, true);
        x.pass(1);
        bounds.same("a flow of 10 takes 1: the last coin burns", 10, () -> x.of(1, 'g'));
        x.cutOff(2, false);
        x.pass(1);
        bounds.same("without coins no flow: the other burns", 10, () -> x.of(2, 'g'));
        Lampwick night = Cities.holding(1000);
        night.addService(0, 10, 100, false);
        night.setPressure(12, 4);
        night.pass(7);
        bounds.same("hours 2 to 8 at 30", 7, () -> night.of(1, 'b'));
        night.pass(7);
        bounds.same("but hour 12 is at 4", 13, () -> night.of(1, 'b'));
    }

    private void leaksAlone() {
        bounds.term("If the holder has less than all of these together, only leaks are drawn");
        for (int holder : new int[] {0, 1, 19, 20, 21, 64}) {
            Lampwick x = asking(holder);
            x.pass(1);
            int leaks = Math.min(20, holder);
            bounds.same("of " + holder + ", leaks", (long) leaks, () -> x.account('l'));
            bounds.same("of " + holder + ", left", holder - leaks, () -> x.holder());
            bounds.same("of " + holder + ", burnt", 0, () -> x.of(1, 'g') + x.of(2, 'g') + x.of(3, 'g'));
            bounds.same("of " + holder + ", hours", 0, () -> x.of(1, 'b') + x.of(2, 'b') + x.of(3, 'b'));
            bounds.same("of " + holder + ", metered", 0, () -> x.of(2, 't') + x.of(3, 't'));
            bounds.same("of " + holder + ", arrears", 0, () -> x.of(2, 'a'));
            bounds.same("of " + holder + ", coins", 5, () -> x.of(3, 'c'));
            bounds.same("of " + holder + ", worn", 0, () -> x.of(LAMP, 'w'));
            bounds.same("of " + holder + ", sound", true, () -> x.isSound());
        }
        Lampwick leaking = Cities.holding(20);
        leaking.lay(0, 50, 9, 0);
        leaking.setAge(1, 40);
        leaking.pass(1);
        bounds.same("leaks and nothing asked for, to the last unit", 0, () -> leaking.holder());
        leaking.pass(1);
        bounds.same("then none", 20L, () -> leaking.account('l'));
    }

    private void wear() {
        bounds.term("What burns at a lamp makes its mantle worn by 1, by 5 at a pressure above 40;");
        int[][] cases = {{5, 1}, {6, 1}, {39, 1}, {40, 1}, {41, 5}, {42, 5}, {60, 5}, {4, 0}};
        for (int[] told : cases) {
            Lampwick x = Cities.street(0);
            x.go(0, true);
            Cities.setAllPressures(x, told[0]);
            x.pass(1);
            bounds.same("in an hour at " + told[0], told[1], () -> x.of(LAMP, 'w'));
            x.pass(1);
            bounds.same("in two hours at " + told[0], 2 * told[1], () -> x.of(LAMP, 'w'));
        }
        Lampwick out = Cities.street(0);
        Cities.setAllPressures(out, 60);
        out.pass(1);
        bounds.same("a lamp that is out is not worn", 0, () -> out.of(LAMP, 'w'));
    }

    /** A lamp's flow of 5 takes 1 of the pressure in a main of length 4 and diameter 1; a rise of 1 is a twentieth. */
    private void wearAbove40() {
        int[][] cases = {{41, -1, 1}, {41, 0, 1}, {41, 1, 5}, {40, 19, 1}, {40, 20, 1}, {40, 21, 5}, {42, -21, 1}, {42, -20, 1},
            {42, -19, 5}};
        for (int[] told : cases) {
            Lampwick x = Cities.holding(1000);
            x.lay(0, 4, 1, told[1]);
            x.addLamp(1, 0, 0);
            x.addLighter();
            x.assign(0, LAMP);
            x.go(0, true);
            Cities.setAllPressures(x, told[0]);
            x.pass(1);
            bounds.same("works at " + told[0] + ", rise " + told[1], told[2], () -> x.of(LAMP, 'w'));
        }
    }

    private void brokenAt60() {
        for (int hours : new int[] {58, 59, 60, 61, 70}) {
            Lampwick x = Cities.worn(hours);
            boolean isBroken = hours >= 60;
            bounds.same(hours + " hours, worn", Math.min(60, hours), () -> x.of(LAMP, 'w'));
            bounds.same(hours + " hours, state", isBroken ? 'b' : 'l', () -> x.state(LAMP));
            bounds.same(hours + " hours, burnt", Math.min(60, hours), () -> x.of(LAMP, 'b'));
            bounds.same(hours + " hours, drawn", 10000 - 5 * Math.min(60, hours), () -> x.holder());
            bounds.same(hours + " hours, sound", true, () -> x.isSound());
        }
        for (int hours = 54; hours < 60; hours++) {
            Lampwick x = Cities.worn(hours);
            Cities.setAllPressures(x, 60);
            x.pass(1);
            bounds.same("5 more than " + hours + ", 60 at most", Math.min(60, hours + 5), () -> x.of(LAMP, 'w'));
            bounds.same("5 more than " + hours + ", state", hours == 54 ? 'l' : 'b', () -> x.state(LAMP));
            bounds.same("5 more than " + hours + ", sound", true, () -> x.isSound());
        }
        for (int hours : new int[] {11, 12, 13}) {
            Lampwick x = Cities.street(0);
            x.go(0, true);
            Cities.setAllPressures(x, 60);
            x.pass(hours);
            bounds.same(hours + " hours by 5", Math.min(60, 5 * hours), () -> x.of(LAMP, 'w'));
            bounds.same(hours + " hours by 5, burnt", Math.min(12, hours), () -> x.of(LAMP, 'b'));
        }
    }

    private void mantleIsKept() {
        Lampwick x = Cities.worn(59);
        x.go(0, false);
        x.pass(48);
        bounds.same("out, worn by 59 still", 59, () -> x.of(LAMP, 'w'));
        bounds.same("lit again", 1, () -> x.go(0, true));
        x.pass(1);
        bounds.same("broken", 'b', () -> x.state(LAMP));
        bounds.same("not lit again", 0, () -> x.go(0, true));
        x.mend(LAMP);
        bounds.same("mended, lit again", 1, () -> x.go(0, true));
    }

    private void lampHoursOwed() {
        for (int hours : new int[] {1, 2, 59, 60, 61}) {
            Lampwick x = Cities.holding(10000);
            for (int parish = 0; parish < 4; parish++) {
                x.addLamp(0, 0, parish);
            }
            x.addLighter();
            x.assign(0, 1 + hours % 4);
            x.go(0, true);
            for (int i = 0; i < hours; i++) {
                x.pass(1);
            }
            for (int i = 0; i < 4; i++) {
                int parish = i;
                int owed = parish == hours % 4 ? 2 * Math.min(60, hours) : 0;
                bounds.same(hours + " hours, parish " + parish, owed, () -> x.owes(parish) + x.fines(parish));
            }
        }
    }

    private void serviceHours() {
        bounds.term("What a service burns is metered; by coins it has as many coins less");
        int[][] cases = {{0, 0, 0}, {1, 0, 0}, {2, 1, 1}, {11, 9, 1}, {12, 10, 1}, {13, 11, 2}, {99, 88, 9}};
        for (int[] told : cases) {
            Lampwick x = Cities.holding(10000);
            x.addService(0, told[0], 89, false);
            x.pass(1);
            bounds.same(told[0] + ", metered", told[1], () -> x.of(1, 't'));
            bounds.same(told[0] + ", arrears", told[2], () -> x.of(1, 'a'));
            bounds.same(told[0] + ", no coins", 0, () -> x.of(1, 'c'));
            x.pass(48);
            bounds.same(told[0] + ", metered in 49 hours", 49 * told[1], () -> x.of(1, 't'));
            bounds.same(told[0] + ", arrears of 49 hours", 49 * told[2], () -> x.of(1, 'a'));
        }
    }

    private void coinHours() {
        // 99 at 120 hundredths cost 12.
        int[][] cases = {{11, 0, 11}, {12, 1, 0}, {13, 1, 1}, {23, 1, 11}, {24, 2, 0}, {25, 2, 1}, {36, 3, 0}, {99, 3, 63}};
        for (int[] told : cases) {
            Lampwick x = Cities.holding(10000);
            x.addService(0, 99, 120, true);
            x.coins(1, told[0]);
            x.pass(3);
            bounds.same(told[0] + " coins, hours", told[1], () -> x.of(1, 'b'));
            bounds.same(told[0] + " coins, left", told[2], () -> x.of(1, 'c'));
            bounds.same(told[0] + " coins, metered", 118 * told[1], () -> x.of(1, 't'));
            bounds.same(told[0] + " coins, no arrears", 0, () -> x.of(1, 'a'));
        }
        Lampwick free = Cities.holding(100);
        free.addService(0, 1, 99, true);
        free.pass(2);
        bounds.same("what costs nothing burns without coins", 2, () -> free.of(1, 'b'));
        bounds.same("and takes none", 0, () -> free.of(1, 'c'));
    }

    private void outWhenNotBurning() {
        bounds.term("A lit lamp that does not burn, or whose mantle is broken then, is out.");
        Lampwick low = Cities.street(0);
        low.go(0, true);
        low.setPressure(7, 4);
        low.pass(1);
        bounds.same("at a pressure of 30", 'l', () -> low.state(LAMP));
        low.pass(1);
        bounds.same("at a pressure of 4", 'o', () -> low.state(LAMP));
        low.pass(1);
        bounds.same("and not lit by itself", 'o', () -> low.state(LAMP));
        for (boolean isByFrost : new boolean[] {false, true}) {
            Lampwick x = asking(1000);
            boolean was = isByFrost ? x.setFrozen(1, true) : x.setShut(1, true);
            bounds.same("lit until the hour goes by, it was closed: " + was, 'l', () -> x.state(LAMP));
            x.pass(1);
            bounds.same("without gas", 'o', () -> x.state(LAMP));
        }
        Lampwick empty = asking(64);
        empty.pass(1);
        bounds.same("too little in the holder", 'o', () -> empty.state(LAMP));
        Lampwick broken = Cities.worn(59);
        bounds.same("worn by 59", 1f, () -> broken.litShare());
        broken.pass(1);
        broken.mend(LAMP);
        bounds.same("was out when broken", 'o', () -> broken.state(LAMP));
    }

    private void darkWhenDue() {
        bounds.term("A lamp that is due and does not burn is dark: its parish's fines are 1 more.");
        int[][] cases = {{0, 1, 1}, {6, 1, 1}, {7, 1, 1}, {8, 1, 0}, {15, 1, 0}, {16, 1, 1}, {23, 1, 1}, {7, 2, 1}, {15, 2, 1}};
        for (int[] told : cases) {
            Lampwick x = Cities.inHour(told[0]);
            x.addLamp(0, 0, 3);
            x.pass(told[1]);
            String call = "from hour " + told[0] + " by " + told[1];
            bounds.same(call + ", fines", told[2], () -> x.fines(3));
            bounds.same(call + ", dark", told[2], () -> x.of(0, 'd'));
            bounds.same(call + ", owes", -told[2], () -> x.owes(3));
        }
        Lampwick fog = Cities.inHour(12);
        fog.addLamp(0, 0, 1);
        fog.setFog(true);
        fog.pass(1);
        bounds.same("fog at noon", 1, () -> fog.fines(1));
        Lampwick full = Cities.inHour(24 * 15 + 20);
        full.addLamp(0, 0, 1);
        full.pass(1);
        bounds.same("a full moon", 0, () -> full.fines(1));
        full.setCloudy(15, true);
        full.pass(1);
        bounds.same("a cloudy one", 1, () -> full.fines(1));
    }

    private void notDarkWhenBurning() {
        Lampwick x = Cities.holding(10000);
        x.addLamp(0, 0, 0);
        x.addLighter();
        x.assign(0, LAMP);
        x.go(0, true);
        x.pass(48);
        bounds.same("lit for two days", 0, () -> x.fines(0));
        x.pass(11);
        bounds.same("worn by 59", 0, () -> x.of(LAMP, 'd'));
        x.setFog(true);
        x.pass(1);
        bounds.same("not dark in the hour in which it broke", 0, () -> x.of(LAMP, 'd'));
        x.pass(1);
        bounds.same("but in the next", 1, () -> x.of(LAMP, 'd'));
        x.mend(LAMP);
        x.go(0, true);
        x.setPressure(19, 4);
        bounds.same("the hour then", 67, () -> x.pass(1) - 1);
        bounds.same("dark too when lit and at a pressure of 4", 2, () -> x.of(LAMP, 'd'));
        x.addService(0, 1, 100, false);
        x.pass(1);
        bounds.same("a service is never dark", 0, () -> x.of(2, 'd'));
    }

    private void owes() {
        bounds.row(41, "Returns what a parish owes.");
        bounds.row(41, "Returns the sum of lamp hours, less fines, perhaps below 0.");
        Lampwick x = Cities.holding(10000);
        x.setFog(true);
        x.addLamp(0, 0, 0);
        x.addLamp(0, 0, 0);
        x.addLighter();
        x.assign(0, LAMP);
        bounds.same("nothing at first", 0, () -> x.owes(0));
        x.pass(1);
        bounds.same("two dark", -2, () -> x.owes(0));
        x.go(0, true);
        x.pass(1);
        bounds.same("one dark, one lit", -1, () -> x.owes(0));
        x.pass(1);
        bounds.same("again", 0, () -> x.owes(0));
        x.pass(1);
        bounds.same("and again", 1, () -> x.owes(0));
        bounds.row(41, "`parish`: 0 to 3");
        bounds.row(41, "Throws `IllegalArgumentException` if it is out of range");
        bounds.range(0, 3, Lampwick::new, (city, parish) -> city.owes(parish), parish -> 0);
        bounds.range(0, 3, Cities::small, (city, parish) -> city.owes(parish), parish -> parish < 2 ? 6 : 0);
    }

    private void fines() {
        bounds.row(42, "Returns the fines of a parish.");
        bounds.row(42, "Returns the fines.");
        Lampwick x = new Lampwick();
        bounds.same("0 at first", 0, () -> x.fines(0));
        for (int i = 0; i < 30; i++) {
            x.addLamp(0, 0, 3);
        }
        x.pass(8);
        bounds.same("30 lamps, 8 hours", 240, () -> x.fines(3));
        bounds.same("none of another", 0, () -> x.fines(2));
        bounds.row(42, "`parish`: 0 to 3");
        bounds.row(42, "Throws `IllegalArgumentException` if it is out of range");
        bounds.range(0, 3, Lampwick::new, (city, parish) -> city.fines(parish), parish -> 0);
        bounds.range(0, 3, Cities::small, (city, parish) -> city.fines(parish), parish -> 0);
    }

    private void isSound() {
        bounds.row(48, "Checks the city: gas made is burnt, in the holder or lost;");
        bounds.row(48, "Returns whether all of this holds.");
        bounds.same("new", true, () -> new Lampwick().isSound());
        bounds.same("small", true, () -> Cities.small().isSound());
        bounds.same("full", true, () -> Cities.full().isSound());
        bounds.same("full holder", true, () -> Cities.holding(20000).isSound());
        bounds.same("worn by 59", true, () -> Cities.worn(59).isSound());
        bounds.same("worn by 60", true, () -> Cities.worn(60).isSound());
        bounds.same("in the last hour", true, () -> Cities.inHour(4799).isSound());
        Lampwick x = Cities.full();
        for (int day = 0; day < 30; day++) {
            x.go(day % 6, true);
            bounds.same("day " + day, 10 + 24 * day + 24, () -> x.pass(24));
            bounds.same("day " + day, true, () -> x.isSound());
        }
    }
}
