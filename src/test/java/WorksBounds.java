/** Bounds of coal, retorts, the holder, candles and lime: the Terms' "Works", and promises 2 to 8 and 44. */
final class WorksBounds {
    private final Boundaries bounds;

    WorksBounds(Boundaries bounds) {
        this.bounds = bounds;
    }

    void test() {
        toTheLastUnit();
        kinds();
        row();
        noRetorts();
        tonsOfAnHour();
        room();
        roomOfTheHour();
        noCandlesAtFirst();
        candlesOfHadAndCame();
        candlesByCall();
        candlesOfLostGas();
        limeOfAnHour();
        foulFromHundred();
        foulCandles();
        charge();
        tooManyTons();
        setRetorts();
        holder();
        candles();
        lime();
        changeLime();
        setPressure();
        account();
    }

    private void toTheLastUnit() {
        bounds.term("Gas made is burnt, stored or lost, to the last unit.");
        Lampwick x = new Lampwick();
        for (int node = 1; node < 12; node++) {
            x.lay(0, 99, 9, 0);
            x.setAge(node, 99);
            x.setShut(node, true);
        }
        for (int i = 0; i < 30; i++) {
            x.addService(0, 99, 100, false);
            x.cutOff(i, true);
        }
        x.setRetorts(20);
        x.charge(3, 99);
        x.charge(2, 99);
        x.pass(9);
        bounds.same("full", 20000, () -> x.holder());
        for (int node = 1; node < 12; node++) {
            x.setShut(node, false);
        }
        for (int i = 0; i < 30; i++) {
            x.cutOff(i, false);
        }
        for (int hour = 0; hour < 8; hour++) {
            x.pass(1);
            long sum = x.account('b') + x.account('l') + x.account('v') + x.holder();
            bounds.same("made by hour " + hour, sum, () -> x.account('m'));
            bounds.same("sound by hour " + hour, true, () -> x.isSound());
        }
        bounds.same("empty in the end", 0, () -> x.holder());
        bounds.same("all the gas of the coal", 99L * 130 + 99L * 110, () -> x.account('m'));
    }

    private void kinds() {
        bounds.term("Coals are of the kinds 0 to 3;");
        int[] gas = {90, 100, 110, 130};
        int[] candles = {12, 14, 16, 26};
        for (int kind = 0; kind < 4; kind++) {
            for (int tons : new int[] {1, 2, 19, 20}) {
                Lampwick x = new Lampwick();
                x.setRetorts(20);
                x.charge(kind, tons);
                x.pass(1);
                int due = tons * gas[kind];
                bounds.same(tons + " of kind " + kind, due, () -> x.holder());
                bounds.same("candles of " + tons + " of kind " + kind, candles[kind], () -> x.candles());
            }
        }
    }

    private void row() {
        bounds.term("Tons that are charged wait in a row.");
        Lampwick x = new Lampwick();
        x.setRetorts(1);
        x.charge(0, 1);
        x.charge(3, 2);
        x.charge(0, 1);
        int[] due = {90, 220, 350, 440, 440};
        for (int hour = 0; hour < due.length; hour++) {
            x.pass(1);
            bounds.same("made by hour " + hour, (long) due[hour], () -> x.account('m'));
        }
        bounds.same("an empty row begins anew", 2, () -> x.charge(2, 2));
        x.pass(1);
        bounds.same("one waits", 2, () -> x.charge(1, 1));
        x.pass(2);
        bounds.same("made", 440L + 220 + 100, () -> x.account('m'));
        bounds.same("none waits", 1, () -> x.charge(1, 1));
    }

    private void noRetorts() {
        bounds.term("There are 0 to 20 retorts, 0 at first.");
        Lampwick x = new Lampwick();
        x.charge(1, 99);
        x.pass(1);
        bounds.same("none at first: nothing made", 0L, () -> x.account('m'));
        bounds.same("all waits", 100, () -> x.charge(1, 1));
        bounds.same("0 at first", 0, () -> x.setRetorts(20));
        x.pass(1);
        bounds.same("20 at most: 20 tons", 2000L, () -> x.account('m'));
        x.setRetorts(0);
        x.pass(1);
        bounds.same("0 again", 2000L, () -> x.account('m'));
    }

    private void tonsOfAnHour() {
        bounds.term("In each hour as many tons as there are retorts");
        int[][] cases = {{0, 3}, {1, 3}, {2, 3}, {3, 3}, {4, 3}, {20, 3}, {20, 19}, {20, 20}, {20, 21}, {19, 20}};
        for (int[] told : cases) {
            int retorts = told[0];
            int waiting = told[1];
            Lampwick x = new Lampwick();
            x.setRetorts(retorts);
            x.charge(1, waiting);
            x.pass(1);
            int burnt = Math.min(retorts, waiting);
            String call = retorts + " retorts, " + waiting + " tons";
            bounds.same(call, 100 * burnt, () -> x.holder());
            bounds.same(call + ", what waits", waiting - burnt + 1, () -> x.charge(1, 1));
        }
        Lampwick none = new Lampwick();
        none.setRetorts(20);
        none.pass(1);
        bounds.same("20 retorts, nothing waits", 0, () -> none.holder());
        Lampwick x = new Lampwick();
        x.setRetorts(3);
        x.charge(0, 2);
        x.charge(3, 2);
        x.pass(1);
        bounds.same("the first charged first, and of the next what is left", 2 * 90 + 130, () -> x.holder());
        x.pass(1);
        bounds.same("the rest", 2 * 90 + 2 * 130, () -> x.holder());
    }

    private void room() {
        int[][] cases = {{19799, 19999, 0}, {19800, 20000, 0}, {19801, 20000, 1}, {19999, 20000, 199}, {20000, 20000, 200}};
        for (int[] told : cases) {
            Lampwick x = Cities.holding(told[0]);
            bounds.same("holding " + told[0], told[0], () -> x.holder());
            long before = x.account('v');
            x.setRetorts(20);
            x.charge(0, 1);
            x.charge(2, 1);
            x.pass(1);
            bounds.same("200 more than " + told[0], told[1], () -> x.holder());
            bounds.same("lost of 200 more than " + told[0], before + told[2], () -> x.account('v'));
        }
    }

    /** The room is that ahead of what the hour burns. */
    private void roomOfTheHour() {
        Lampwick x = Cities.holding(20000);
        x.setDemand(0, 30);
        x.setRetorts(1);
        x.charge(1, 3);
        x.pass(1);
        bounds.same("full, all lost", 100L, () -> x.account('v'));
        bounds.same("then 30 are burnt", 19970, () -> x.holder());
        x.pass(1);
        bounds.same("room for 30", 170L, () -> x.account('v'));
    }

    private void noCandlesAtFirst() {
        bounds.term("The candles of the holder are, behind each charge");
        Lampwick x = new Lampwick();
        bounds.same("0 at first", 0, () -> x.candles());
        x.pass(1);
        bounds.same("0 without gas", 0, () -> x.candles());
        x.setRetorts(1);
        x.charge(2, 1);
        bounds.same("0 while it waits", 0, () -> x.candles());
        x.pass(1);
        bounds.same("of the first gas alone", 16, () -> x.candles());
        x.addService(0, 99, 100, false);
        x.addService(0, 11, 100, false);
        x.pass(1);
        bounds.same("empty", 0, () -> x.holder());
        bounds.same("an empty holder's stay", 16, () -> x.candles());
        x.charge(0, 1);
        x.setDemand(0, 0);
        x.setDemand(1, 0);
        x.pass(1);
        bounds.same("what was burnt counts no more", 12, () -> x.candles());
    }

    private void candlesOfHadAndCame() {
        // Had of 14 candles, came of kind 0 with 90 of 12 or of kind 3 with 130 of 26; the quotient is cut.
        int[][] cases = {{1, 0, (14 + 12 * 90) / 91, 12}, {90, 0, 13, 13}, {89, 0, (14 * 89 + 1080) / 179, 12},
            {91, 0, (14 * 91 + 1080) / 181, 13}, {1430, 3, 15, 15}, {1431, 3, (14 * 1431 + 3380) / 1561, 14},
            {1429, 3, (14 * 1429 + 3380) / 1559, 15}, {0, 3, 26, 26}, {0, 0, 12, 12}};
        for (int[] told : cases) {
            Lampwick x = Cities.holding(told[0]);
            x.setRetorts(1);
            x.charge(told[1], 1);
            x.pass(1);
            bounds.same("had " + told[0] + ", a ton of kind " + told[1], told[2], () -> x.candles());
            bounds.same("had " + told[0] + ", as told", told[3], () -> x.candles());
        }
    }

    /** 180 of 14 candles and 90 of 12 are of 13.3, cut 13; these 270 and 90 of 12 are of 12.75, cut 12. */
    private void candlesByCall() {
        Lampwick calls = Cities.holding(180);
        calls.setRetorts(2);
        calls.charge(0, 1);
        calls.charge(0, 1);
        calls.pass(1);
        bounds.same("two calls of a ton are cut twice", 12, () -> calls.candles());
        Lampwick one = Cities.holding(180);
        one.setRetorts(2);
        one.charge(0, 2);
        one.pass(1);
        bounds.same("one call of two tons is cut once, of 13.0", 13, () -> one.candles());
        Lampwick hours = Cities.holding(180);
        hours.setRetorts(1);
        hours.charge(0, 2);
        hours.pass(2);
        bounds.same("one call over two hours is cut twice", 12, () -> hours.candles());
    }

    private void candlesOfLostGas() {
        int[] holders = {20000, 19999, 17400, 17401};
        for (int had : holders) {
            Lampwick x = Cities.holding(had);
            x.setRetorts(20);
            x.charge(3, 20);
            x.pass(1);
            bounds.same("had " + had + ", 2600 came, lost or not", (14 * had + 26 * 2600) / (had + 2600), () -> x.candles());
            bounds.same("full", 20000, () -> x.holder());
        }
        Lampwick x = Cities.holding(20000);
        x.setRetorts(2);
        x.charge(3, 1);
        x.charge(0, 1);
        x.pass(1);
        int first = (14 * 20000 + 26 * 130) / 20130;
        bounds.same("had is what there is room for", (first * 20000 + 12 * 90) / 20090, () -> x.candles());
    }

    private void limeOfAnHour() {
        bounds.term("The lime fouls by a hundredth, cut,");
        int[][] cases = {{0, 1, 90, 0}, {1, 1, 100, 1}, {2, 1, 110, 1}, {0, 2, 180, 1}, {1, 2, 200, 2}, {3, 3, 390, 3},
            {1, 20, 2000, 20}, {0, 19, 1710, 17}, {3, 20, 2600, 26}, {0, 11, 990, 9}, {2, 18, 1980, 19}, {3, 10, 1300, 13}};
        for (int[] told : cases) {
            Lampwick x = new Lampwick();
            x.setRetorts(20);
            x.charge(told[0], told[1]);
            x.pass(1);
            bounds.same("made", told[2], () -> x.holder());
            bounds.same("by " + told[2], told[3], () -> x.lime());
        }
        Lampwick calls = new Lampwick();
        calls.setRetorts(2);
        calls.charge(0, 1);
        calls.charge(2, 1);
        calls.pass(1);
        bounds.same("by the sum of the hour, not of each call", 2, () -> calls.lime());
        Lampwick hours = new Lampwick();
        hours.setRetorts(1);
        hours.charge(0, 3);
        hours.pass(3);
        bounds.same("by each hour, not by the sum of them", 0, () -> hours.lime());
        Lampwick full = Cities.holding(20000);
        full.setRetorts(1);
        full.charge(1, 1);
        full.pass(1);
        bounds.same("by gas that has no room too", 1, () -> full.lime());
        full.pass(1);
        bounds.same("by nothing in an hour without coal", 1, () -> full.lime());
    }

    private void foulFromHundred() {
        int[][] cases = {{98, 12}, {99, 12}, {100, 7}, {101, 7}, {120, 7}};
        for (int[] told : cases) {
            Lampwick x = fouled(told[0]);
            bounds.same("lime", told[0], () -> x.lime());
            bounds.same("candles at " + told[0], told[1], () -> x.candles());
            bounds.same("changed", told[0], () -> x.changeLime());
            bounds.same("candles when changed", 12, () -> x.candles());
            bounds.same("new lime", 0, () -> x.lime());
        }
    }

    /** So much foul lime, by gas of kind 0 alone, hours of 18 and then of 1 each: 20 tons give 1800, 2 tons 180. */
    private static Lampwick fouled(int lime) {
        Lampwick x = new Lampwick();
        x.setRetorts(20);
        while (x.lime() + 18 <= lime) {
            x.charge(0, 20);
            x.pass(1);
        }
        while (x.lime() < lime) {
            x.charge(0, 2);
            x.pass(1);
        }
        return x;
    }

    private void foulCandles() {
        Lampwick x = fouled(100);
        x.charge(3, 20);
        int had = x.holder();
        x.pass(1);
        int mixed = (12 * had + 26 * 2600) / (had + 2600);
        bounds.same("5 less counts only when told, not when mixed", mixed - 5, () -> x.candles());
        x.changeLime();
        bounds.same("and no more when changed", mixed, () -> x.candles());
        // Gas is of 12 candles at least, and lime fouls by gas alone: 7 is the least that can be told of foul gas.
        Lampwick none = new Lampwick();
        none.changeLime();
        bounds.same("0 at least", 0, () -> none.candles());
    }

    private void charge() {
        bounds.row(2, "Charges coal.");
        bounds.row(2, "Returns how many tons wait.");
        Lampwick x = new Lampwick();
        bounds.same("the first", 1, () -> x.charge(3, 1));
        bounds.same("another kind", 100, () -> x.charge(0, 99));
        bounds.row(2, "Throws `IllegalArgumentException` if a number is out of range");
        bounds.row(2, "`kind`: 0 to 3");
        bounds.range(0, 3, Cities::small, (city, kind) -> city.charge(kind, 1), kind -> 6);
        bounds.row(2, "`tons`: 1 to 99");
        bounds.range(1, 99, Cities::small, (city, tons) -> city.charge(0, tons), tons -> 5 + tons);
    }

    private void tooManyTons() {
        bounds.row(2, "Throws `IllegalStateException` if more than 999 tons would wait");
        int[][] right = {{900, 98}, {900, 99}, {901, 98}, {997, 1}, {997, 2}, {998, 1}};
        for (int[] r : right) {
            bounds.same(r[0] + " and " + r[1], r[0] + r[1], () -> waiting(r[0]).charge(1, r[1]));
        }
        int[][] wrong = {{901, 99}, {902, 98}, {902, 99}, {998, 2}, {999, 1}, {999, 99}};
        for (int[] w : wrong) {
            bounds.refused(w[0] + " and " + w[1], IllegalStateException.class, () -> waiting(w[0]),
                    city -> city.charge(1, w[1]));
        }
        Lampwick x = waiting(999);
        x.setRetorts(1);
        x.pass(1);
        bounds.same("room for one again", 999, () -> x.charge(1, 1));
        x.setRetorts(20);
        x.pass(48);
        bounds.same("room for many again", 39 + 99, () -> x.charge(1, 99));
    }

    private static Lampwick waiting(int tons) {
        Lampwick x = new Lampwick();
        for (int rest = tons; rest > 0; rest -= 99) {
            x.charge(0, Math.min(99, rest));
        }
        return x;
    }

    private void setRetorts() {
        bounds.row(3, "Tells how many retorts there are.");
        bounds.row(3, "Returns how many there were.");
        Lampwick x = new Lampwick();
        int before = 0;
        for (int retorts : new int[] {20, 0, 1, 19, 20, 20}) {
            int due = before;
            bounds.same("to " + retorts, due, () -> x.setRetorts(retorts));
            before = retorts;
        }
        bounds.row(3, "`retorts`: 0 to 20");
        bounds.row(3, "Throws `IllegalArgumentException` if it is out of range");
        bounds.range(0, 20, Cities::small, (city, retorts) -> city.setRetorts(retorts), retorts -> 2);
        bounds.range(0, 20, Cities::full, (city, retorts) -> {
            long made = city.account('m');
            city.setRetorts(retorts);
            city.pass(1);
            return city.account('m') - made;
        }, retorts -> 100L * retorts);
    }

    private void holder() {
        bounds.row(4, "Returns the gas in the holder.");
        bounds.row(4, "Returns the amount.");
        bounds.same("empty at first", 0, () -> new Lampwick().holder());
        for (int gas : new int[] {0, 1, 99, 100, 101, 19999, 20000}) {
            bounds.same("holding " + gas, gas, () -> Cities.holding(gas).holder());
        }
    }

    private void candles() {
        bounds.row(5, "Returns the candles of the gas in the holder, 5 less if it is foul, 0 at least.");
        bounds.row(5, "Returns the candles.");
        bounds.same("none", 0, () -> new Lampwick().candles());
        bounds.same("clean", 12, () -> fouled(99).candles());
        bounds.same("foul", 7, () -> fouled(100).candles());
    }

    private void lime() {
        bounds.row(6, "Returns how foul the lime is.");
        bounds.row(6, "Returns how foul.");
        bounds.same("new", 0, () -> new Lampwick().lime());
        for (int lime : new int[] {1, 99, 100, 101, 300}) {
            bounds.same("fouled by " + lime, lime, () -> fouled(lime).lime());
        }
    }

    private void changeLime() {
        bounds.row(7, "Changes the lime.");
        bounds.row(7, "Returns how foul it was.");
        bounds.same("new", 0, () -> new Lampwick().changeLime());
        for (int lime : new int[] {1, 99, 100, 101}) {
            Lampwick x = fouled(lime);
            bounds.same("fouled by " + lime, lime, () -> x.changeLime());
            bounds.same("then new", 0, () -> x.changeLime());
            bounds.same("then new", 0, () -> x.lime());
        }
        Lampwick x = fouled(100);
        x.changeLime();
        x.charge(0, 20);
        x.pass(1);
        bounds.same("fouls anew from 0", 18, () -> x.lime());
    }

    private void setPressure() {
        bounds.row(8, "Tells the pressure at the works.");
        bounds.row(8, "Returns the pressure before.");
        Lampwick x = new Lampwick();
        for (int hour = 0; hour < 24; hour++) {
            int told = hour;
            bounds.same("hour " + told + ", 30 at first", 30, () -> x.setPressure(told, 60 - told));
        }
        for (int hour = 0; hour < 24; hour++) {
            int told = hour;
            bounds.same("hour " + told + ", then", 60 - told, () -> x.setPressure(told, 1));
        }
        bounds.row(8, "Throws `IllegalArgumentException` if a number is out of range");
        bounds.row(8, "`hour`: 0 to 23, of the day");
        bounds.range(0, 23, Cities::small, (city, hour) -> city.setPressure(hour, 60), hour -> 30);
        bounds.row(8, "`pressure`: 1 to 60");
        bounds.range(1, 60, Cities::small, (city, pressure) -> city.setPressure(5, pressure), pressure -> 33);
        bounds.range(1, 60, Cities::small, (city, pressure) -> {
            city.setPressure(3, pressure);
            return city.pressure(0);
        }, pressure -> (float) pressure);
    }

    private void account() {
        bounds.row(44, "Returns an account of gas.");
        bounds.row(44, "Returns the sum.");
        bounds.row(44, "`which`: 'm' made, 'b' burnt,");
        for (char which : "mblv".toCharArray()) {
            bounds.same("at first, " + which, 0L, () -> new Lampwick().account(which));
        }
        Lampwick x = Cities.holding(20000);
        x.lay(0, 50, 9, 0);
        x.setAge(1, 50);
        x.setDemand(0, 7);
        x.setRetorts(1);
        x.charge(3, 1);
        x.pass(1);
        bounds.same("made", 20130L, () -> x.account('m'));
        bounds.same("burnt", 7L, () -> x.account('b'));
        bounds.same("lost by leaks", 25L, () -> x.account('l'));
        bounds.same("lost for want of room", 130L, () -> x.account('v'));
        bounds.row(44, "Throws `IllegalArgumentException` if there is no such account");
        for (char which : new char[] {'a', 'c', 'k', 'n', 'u', 'w', 'M', 'B', 'L', 'V', 'g', ' ', 0, 127, 128, 255, 256, 65535}) {
            bounds.refused("account " + (int) which, IllegalArgumentException.class, Cities::small,
                    city -> city.account(which));
        }
    }
}
