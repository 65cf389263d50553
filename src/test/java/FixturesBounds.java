import java.util.function.IntFunction;

/** Bounds of lamps and services: the Terms' "Fixtures", and promises 15 to 23 and 45 to 47. */
final class FixturesBounds {
    private static final int LAMP = 1;
    private static final int SERVICE = 2;
    private static final int BY_COINS = 3;

    private final Boundaries bounds;

    FixturesBounds(Boundaries bounds) {
        this.bounds = bounds;
    }

    void test() {
        numbers();
        newLamps();
        newServices();
        meters();
        costs();
        coinsOrNot();
        addLamp();
        addService();
        tooMany();
        setDemand();
        coins();
        cutOff();
        pay();
        mend();
        state();
        of();
        ofWhatIsNot();
        checksum();
        checksumOfBounds();
        litShare();
        meanHours();
    }

    private static Lampwick lamps(int count) {
        Lampwick x = new Lampwick();
        for (int i = 0; i < count; i++) {
            x.addLamp(0, i, i % 4);
        }
        return x;
    }

    private void numbers() {
        bounds.term("Lamps and services are numbered from 0 in one row, 30 at most, each at a node.");
        Lampwick x = new Lampwick();
        for (int node = 1; node < 12; node++) {
            x.lay(0, 1, 9, 0);
        }
        for (int i = 0; i < 30; i++) {
            int due = i;
            if (i % 3 == 0) {
                bounds.same("lamp", due, () -> x.addLamp(due % 12, 0, 0));
            } else {
                bounds.same("service", due, () -> x.addService(due % 12, due, 100, false));
            }
        }
        for (int i = 0; i < 30; i++) {
            int told = i;
            bounds.same("number " + i, i % 3 == 0 ? 'o' : 's', () -> x.state(told));
        }
        for (int node = 1; node < 12; node++) {
            int told = node;
            int due = 0;
            for (int i = node; i < 30; i += 12) {
                due += i % 3 == 0 ? 0 : i;
            }
            int sum = due;
            bounds.same("at node " + node, sum, () -> x.flow(told));
        }
        bounds.refused("a 31st", IllegalStateException.class, () -> lamps(30), city -> city.addLamp(0, 0, 0));
        bounds.same("a 30th", 29, () -> lamps(29).addLamp(0, 0, 0));
        bounds.refused("none at first", IndexOutOfBoundsException.class, Lampwick::new, city -> city.state(0));
    }

    private void newLamps() {
        bounds.term("A lamp has a place, 0 to 999, and a parish, 0 to 3;");
        for (int place : new int[] {0, 1, 9, 10, 989, 990, 998, 999}) {
            Lampwick x = Cities.street(place);
            bounds.same("minutes to the place " + place, place / 10 + 1, () -> x.minutes(0));
        }
        for (int parish = 0; parish < 4; parish++) {
            Lampwick x = new Lampwick();
            x.addLamp(0, 0, parish);
            x.pass(1);
            for (int i = 0; i < 4; i++) {
                int told = i;
                bounds.same("dark in " + parish + ", fines of " + i, i == parish ? 1 : 0, () -> x.fines(told));
            }
        }
        bounds.same("out at first", 'o', () -> lamps(1).state(0));
        bounds.same("worn by 0 at first", 0, () -> lamps(1).of(0, 'w'));
        bounds.same("whole at first: can be lit", 1, () -> Cities.street(0).go(0, true));
    }

    private void newServices() {
        bounds.term("A service asks for 0 to 99 in an hour;");
        for (int demand : new int[] {0, 1, 98, 99}) {
            Lampwick x = metered(demand, 100);
            bounds.same("asks for " + demand + ", burnt", demand, () -> x.of(1, 'g'));
            bounds.same("asks for " + demand + ", metered", demand, () -> x.of(1, 't'));
            bounds.same("asks for " + demand + ", hours", demand == 0 ? 0 : 1, () -> x.of(1, 'b'));
        }
    }

    /** Service 1, in an hour with gas enough. */
    private static Lampwick metered(int demand, int hundredths) {
        Lampwick x = Cities.holding(1000);
        x.addService(0, demand, hundredths, false);
        x.pass(1);
        return x;
    }

    private void meters() {
        int[][] cases = {{0, 120, 0}, {1, 80, 0}, {1, 99, 0}, {1, 100, 1}, {1, 120, 1}, {2, 80, 1}, {4, 120, 4}, {5, 120, 6},
            {5, 119, 5}, {5, 80, 4}, {5, 81, 4}, {9, 111, 9}, {9, 112, 10}, {99, 80, 79}, {99, 81, 80}, {99, 100, 99},
            {99, 101, 99}, {99, 119, 117}, {99, 120, 118}};
        for (int[] told : cases) {
            Lampwick x = metered(told[0], told[1]);
            String call = told[0] + " at " + told[1] + " hundredths";
            bounds.same(call, told[2], () -> x.of(1, 't'));
            bounds.same(call + ", burnt", told[0], () -> x.of(1, 'g'));
            bounds.same(call + ", drawn", 1000 - told[0], () -> x.holder());
            x.pass(1);
            bounds.same(call + ", cut in each of two hours", 2 * told[2], () -> x.of(1, 't'));
        }
    }

    private void costs() {
        int[][] cases = {{0, 100, 0}, {1, 99, 0}, {1, 100, 1}, {9, 100, 1}, {10, 100, 1}, {11, 100, 2}, {11, 90, 1}, {12, 91, 1},
            {12, 92, 2}, {19, 100, 2}, {20, 100, 2}, {21, 100, 3}, {90, 100, 9}, {91, 100, 10}, {99, 80, 8}, {99, 81, 8},
            {99, 82, 9}, {99, 120, 12}};
        for (int[] told : cases) {
            Lampwick x = metered(told[0], told[1]);
            String call = told[0] + " at " + told[1] + " hundredths";
            bounds.same(call + ", costs", told[2], () -> x.of(1, 'a'));
            x.pass(2);
            bounds.same(call + ", cost of three hours", 3 * told[2], () -> x.of(1, 'a'));
        }
    }

    private void coinsOrNot() {
        bounds.term("It works by coins, none at first, or not.");
        Lampwick x = Cities.holding(1000);
        x.addService(0, 10, 100, true);
        x.addService(0, 10, 100, false);
        bounds.same("none at first", 0, () -> x.of(1, 'c'));
        x.pass(1);
        bounds.same("without coins nothing burns", 0, () -> x.of(1, 'g'));
        bounds.same("one not by coins burns", 10, () -> x.of(2, 'g'));
        bounds.same("the first coin", 1, () -> x.coins(1, 1));
        x.pass(1);
        bounds.same("then it burns", 10, () -> x.of(1, 'g'));
        bounds.same("and has none again", 0, () -> x.of(1, 'c'));
        bounds.same("one not by coins has none", 0, () -> x.of(2, 'c'));
    }

    private void addLamp() {
        bounds.row(15, "Adds a lamp.");
        bounds.row(15, "Returns its number.");
        bounds.same("the first", 0, () -> new Lampwick().addLamp(0, 0, 0));
        bounds.same("the 30th", 29, () -> lamps(29).addLamp(0, 999, 3));
        bounds.row(15, "Throws `IllegalArgumentException` if a number is out of range");
        bounds.row(15, "`place`: 0 to 999");
        bounds.range(0, 999, Cities::small, (city, place) -> city.addLamp(2, place, 0), place -> 4);
        bounds.row(15, "`parish`: 0 to 3");
        bounds.range(0, 3, Cities::small, (city, parish) -> city.addLamp(2, 0, parish), parish -> 4);
        bounds.row(15, "Throws `IndexOutOfBoundsException` if there is no such node");
        bounds.row(15, "`node`: the node");
        bounds.index(0, 0, Lampwick::new, (city, node) -> city.addLamp(node, 0, 0), node -> 0);
        bounds.index(0, 2, Cities::small, (city, node) -> city.addLamp(node, 0, 0), node -> 4);
        bounds.refused("no 13th node", IndexOutOfBoundsException.class, Cities::full, city -> city.addLamp(12, 0, 0));
    }

    private void addService() {
        bounds.row(16, "Adds a service.");
        bounds.row(16, "Returns its number.");
        bounds.row(16, "`hasCoins`: whether it works by coins");
        for (boolean hasCoins : new boolean[] {true, false}) {
            bounds.same("the first", 0, () -> new Lampwick().addService(0, 0, 80, hasCoins));
            bounds.same("the 30th", 29, () -> lamps(29).addService(0, 99, 120, hasCoins));
        }
        bounds.row(16, "Throws `IllegalArgumentException` if a number is out of range");
        bounds.row(16, "`demand`: 0 to 99");
        bounds.range(0, 99, Cities::small, (city, demand) -> city.addService(2, demand, 100, false), demand -> 4);
        bounds.row(16, "`hundredths`: 80 to 120");
        bounds.range(80, 120, Cities::small, (city, hundredths) -> city.addService(2, 1, hundredths, true), hundredths -> 4);
        bounds.row(16, "Throws `IndexOutOfBoundsException` if there is no such node");
        bounds.row(16, "`node`: the node");
        bounds.index(0, 0, Lampwick::new, (city, node) -> city.addService(node, 0, 100, false), node -> 0);
        bounds.index(0, 2, Cities::small, (city, node) -> city.addService(node, 0, 100, true), node -> 4);
        bounds.refused("no 13th node", IndexOutOfBoundsException.class, Cities::full,
                city -> city.addService(12, 0, 100, true));
    }

    private void tooMany() {
        bounds.row(15, "Throws `IllegalStateException` if there are 30 fixtures");
        bounds.refused("a 31st", IllegalStateException.class, () -> lamps(30), city -> city.addLamp(0, 0, 0));
        bounds.refused("a 31st of a full city", IllegalStateException.class, Cities::full, city -> city.addLamp(11, 999, 3));
        bounds.same("a 29th", 28, () -> lamps(28).addLamp(0, 0, 0));
        bounds.row(16, "Throws `IllegalStateException` if there are 30 fixtures");
        for (boolean hasCoins : new boolean[] {true, false}) {
            bounds.refused("a 31st", IllegalStateException.class, () -> lamps(30),
                    city -> city.addService(0, 0, 80, hasCoins));
            bounds.refused("a 31st of a full city", IllegalStateException.class, Cities::full,
                    city -> city.addService(11, 99, 120, hasCoins));
            bounds.same("a 29th", 28, () -> lamps(28).addService(0, 1, 100, hasCoins));
        }
    }

    private static Lampwick services(int count, boolean hasCoins) {
        Lampwick x = new Lampwick();
        for (int i = 0; i < count; i++) {
            x.addService(0, 20, 100, hasCoins);
        }
        return x;
    }

    /** Lamp 1 is worn by 4; service 2 owes 2, service 3 is by coins and has 7; fixture 0 asks for nothing. */
    private static Lampwick kinds() {
        Lampwick x = Cities.worn(3);
        x.addService(0, 20, 100, false);
        x.addService(0, 20, 100, true);
        x.coins(BY_COINS, 9);
        x.pass(1);
        return x;
    }

    /** The number of a fixture, in cities of 1, 2 and 30, and in one that has none. */
    private void fixtureOf(IntFunction<Lampwick> built, Boundaries.NumberCall made, Object due) {
        for (int count : new int[] {1, 2, 30}) {
            bounds.index(0, count - 1, () -> built.apply(count), made, fixture -> due);
        }
        bounds.refused("no fixture at first", IndexOutOfBoundsException.class, Lampwick::new, city -> made.on(city, 0));
    }

    private void unsupported(String call, Boundaries.CityCall made) {
        bounds.refused(call, UnsupportedOperationException.class, FixturesBounds::kinds, made);
    }

    private void setDemand() {
        bounds.row(17, "Tells what a service asks for.");
        bounds.row(17, "Returns the demand before.");
        Lampwick x = kinds();
        int before = 20;
        for (int demand : new int[] {0, 99, 1, 98, 99, 99}) {
            int due = before;
            bounds.same("to " + demand, due, () -> x.setDemand(SERVICE, demand));
            bounds.same("by coins, to " + demand, due, () -> x.setDemand(BY_COINS, demand));
            before = demand;
        }
        bounds.row(17, "`demand`: 0 to 99");
        bounds.row(17, "Throws `IllegalArgumentException` if it is out of range");
        bounds.range(0, 99, FixturesBounds::kinds, (city, demand) -> city.setDemand(SERVICE, demand), demand -> 20);
        bounds.range(0, 99, () -> services(1, false), (city, demand) -> {
            city.setDemand(0, demand);
            return city.flow(0);
        }, demand -> demand);
        bounds.row(17, "`fixture`: the service");
        bounds.row(17, "Throws `IndexOutOfBoundsException` if there is no such fixture");
        fixtureOf(count -> services(count, false), (city, fixture) -> city.setDemand(fixture, 5), 20);
        bounds.row(17, "Throws `UnsupportedOperationException` if it is no service");
        unsupported("a lamp, 0", city -> city.setDemand(LAMP, 0));
        unsupported("a lamp, 99", city -> city.setDemand(LAMP, 99));
    }

    private void coins() {
        bounds.row(18, "Puts coins into a service.");
        bounds.row(18, "Returns how many it has.");
        Lampwick x = services(1, true);
        int sum = 0;
        for (int coins : new int[] {1, 99, 98, 2, 99}) {
            sum += coins;
            int due = sum;
            bounds.same(coins + " coins", due, () -> x.coins(0, coins));
            bounds.same(coins + " coins, told", due, () -> x.of(0, 'c'));
        }
        x.cutOff(0, true);
        bounds.same("cut off", sum + 1, () -> x.coins(0, 1));
        bounds.row(18, "`coins`: 1 to 99");
        bounds.row(18, "Throws `IllegalArgumentException` if it is out of range");
        bounds.range(1, 99, FixturesBounds::kinds, (city, coins) -> city.coins(BY_COINS, coins), coins -> 7 + coins);
        bounds.row(18, "`fixture`: the service");
        bounds.row(18, "Throws `IndexOutOfBoundsException` if there is no such fixture");
        fixtureOf(count -> services(count, true), (city, fixture) -> city.coins(fixture, 5), 5);
        bounds.row(18, "Throws `UnsupportedOperationException` if it is no service by coins");
        for (int coins : new int[] {1, 99}) {
            unsupported("a lamp, " + coins, city -> city.coins(LAMP, coins));
            unsupported("a service, not by coins, " + coins, city -> city.coins(SERVICE, coins));
        }
    }

    private void cutOff() {
        bounds.row(19, "Cuts a service off, or joins it again.");
        bounds.row(19, "`is`: whether it is cut off then");
        bounds.row(19, "Returns whether it was.");
        Lampwick x = kinds();
        for (int service : new int[] {SERVICE, BY_COINS}) {
            bounds.same("not at first", false, () -> x.cutOff(service, false));
            bounds.same("not still", false, () -> x.cutOff(service, true));
            bounds.same("cut off", true, () -> x.cutOff(service, true));
            bounds.same("cut off still", true, () -> x.cutOff(service, false));
            bounds.same("joined again", false, () -> x.cutOff(service, false));
        }
        bounds.row(19, "`fixture`: the service");
        bounds.row(19, "Throws `IndexOutOfBoundsException` if there is no such fixture");
        fixtureOf(count -> services(count, false), (city, fixture) -> city.cutOff(fixture, true), false);
        fixtureOf(count -> services(count, true), (city, fixture) -> city.cutOff(fixture, false), false);
        bounds.row(19, "Throws `UnsupportedOperationException` if it is no service");
        unsupported("a lamp, off", city -> city.cutOff(LAMP, true));
        unsupported("a lamp, joined", city -> city.cutOff(LAMP, false));
    }

    private void pay() {
        bounds.row(20, "Lets a service pay its arrears.");
        bounds.row(20, "Returns the arrears.");
        bounds.same("none at first", 0, () -> services(1, false).pay(0));
        Lampwick x = kinds();
        bounds.same("those of an hour", 2, () -> x.pay(SERVICE));
        bounds.same("paid", 0, () -> x.pay(SERVICE));
        bounds.same("told", 0, () -> x.of(SERVICE, 'a'));
        bounds.same("none of one by coins", 0, () -> x.pay(BY_COINS));
        bounds.same("who keeps the coins", 7, () -> x.of(BY_COINS, 'c'));
        x.pass(2);
        bounds.same("those of two hours", 4, () -> x.pay(SERVICE));
        x.setDemand(SERVICE, 0);
        x.pass(1);
        bounds.same("none of an hour in which nothing burns", 0, () -> x.pay(SERVICE));
        bounds.row(20, "`fixture`: the service");
        bounds.row(20, "Throws `IndexOutOfBoundsException` if there is no such fixture");
        fixtureOf(count -> services(count, false), (city, fixture) -> city.pay(fixture), 0);
        bounds.row(20, "Throws `UnsupportedOperationException` if it is no service");
        unsupported("a lamp", city -> city.pay(LAMP));
    }

    private void mend() {
        bounds.row(21, "Gives a lamp a new mantle.");
        bounds.row(21, "Returns how worn the old one was.");
        for (int hours : new int[] {0, 1, 59, 60}) {
            Lampwick x = Cities.worn(hours);
            bounds.same("worn by " + hours, hours, () -> x.mend(LAMP));
            bounds.same("then new", 0, () -> x.of(LAMP, 'w'));
            bounds.same("then new", 0, () -> x.mend(LAMP));
            bounds.same("lit as it was", hours == 60 ? 'o' : 'l', () -> x.state(LAMP));
            bounds.same("hours stay", hours, () -> x.of(LAMP, 'b'));
            x.go(0, true);
            x.pass(1);
            bounds.same("worn anew", 1, () -> x.of(LAMP, 'w'));
        }
        bounds.row(21, "`fixture`: the lamp");
        bounds.row(21, "Throws `IndexOutOfBoundsException` if there is no such fixture");
        fixtureOf(FixturesBounds::lamps, (city, fixture) -> city.mend(fixture), 0);
        bounds.row(21, "Throws `UnsupportedOperationException` if it is no lamp");
        unsupported("a service", city -> city.mend(SERVICE));
        unsupported("a service by coins", city -> city.mend(BY_COINS));
    }

    private void state() {
        bounds.row(22, "Returns how a fixture is.");
        bounds.row(22, "Returns of a lamp 'b' broken mantle,");
        char[] states = {'l', 'l', 'l', 'b'};
        int[] hours = {0, 1, 59, 60};
        for (int i = 0; i < hours.length; i++) {
            Lampwick x = Cities.worn(hours[i]);
            bounds.same("worn by " + hours[i], states[i], () -> x.state(LAMP));
            x.go(0, false);
            bounds.same("worn by " + hours[i] + ", put out", hours[i] == 60 ? 'b' : 'o', () -> x.state(LAMP));
        }
        bounds.same("a new lamp", 'o', () -> lamps(1).state(0));
        for (boolean hasCoins : new boolean[] {true, false}) {
            Lampwick x = services(1, hasCoins);
            bounds.same("a service", 's', () -> x.state(0));
            x.cutOff(0, true);
            bounds.same("cut off", 'c', () -> x.state(0));
            x.cutOff(0, false);
            bounds.same("joined again", 's', () -> x.state(0));
        }
        bounds.row(22, "`fixture`: the fixture");
        bounds.row(22, "Throws `IndexOutOfBoundsException` if there is no such fixture");
        fixtureOf(FixturesBounds::lamps, (city, fixture) -> city.state(fixture), 'o');
        fixtureOf(count -> services(count, true), (city, fixture) -> city.state(fixture), 's');
    }

    private void of() {
        bounds.row(23, "Returns something of a fixture.");
        bounds.row(23, "Returns the number.");
        bounds.row(23, "`what`: 'b' the hours in which it burnt,");
        String things = "bgwmdtac";
        int[] newLamp = {0, 0, 0, -1, 0, 0, 0, 0};
        int[] lamp = {4, 20, 4, 1, 0, 0, 0, 0};
        int[] service = {1, 20, 0, 0, 0, 20, 2, 0};
        int[] byCoins = {1, 20, 0, 0, 0, 20, 0, 7};
        for (int i = 0; i < things.length(); i++) {
            char what = things.charAt(i);
            bounds.same(what + " of a new lamp", newLamp[i], () -> lamps(1).of(0, what));
            bounds.same(what + " of a new service", 0, () -> services(1, false).of(0, what));
            bounds.same(what + " of a new service by coins", 0, () -> services(1, true).of(0, what));
            bounds.same(what + " of a lamp", lamp[i], () -> kinds().of(LAMP, what));
            bounds.same(what + " of a service", service[i], () -> kinds().of(SERVICE, what));
            bounds.same(what + " of a service by coins", byCoins[i], () -> kinds().of(BY_COINS, what));
        }
        Lampwick dark = lamps(1);
        dark.pass(8);
        bounds.same("dark in each hour ahead of sunrise", 8, () -> dark.of(0, 'd'));
        dark.pass(1);
        bounds.same("and not behind it", 8, () -> dark.of(0, 'd'));
    }

    private void ofWhatIsNot() {
        bounds.row(23, "`fixture`: the fixture");
        bounds.row(23, "Throws `IndexOutOfBoundsException` if there is no such fixture");
        for (char what : "bgwdtac".toCharArray()) {
            fixtureOf(FixturesBounds::lamps, (city, fixture) -> city.of(fixture, what), 0);
        }
        fixtureOf(FixturesBounds::lamps, (city, fixture) -> city.of(fixture, 'm'), -1);
        bounds.row(23, "Throws `IllegalArgumentException` if there is no such thing");
        char[] wrong = {'`', 'e', 'f', 'h', 'l', 'n', 's', 'u', 'v', 'x', 'B', 'G', 'W', 'M', 'D', 'T', 'A', 'C', ' ', 0, 127, 255,
            (char) ('b' + 256), 65535};
        for (char what : wrong) {
            for (int fixture : new int[] {LAMP, SERVICE, BY_COINS}) {
                bounds.refused((int) what + " of " + fixture, IllegalArgumentException.class, FixturesBounds::kinds,
                        city -> city.of(fixture, what));
            }
        }
    }

    private static long sum(long... parts) {
        long sum = 7;
        for (long part : parts) {
            sum = 31 * sum + part;
        }
        return sum;
    }

    private void checksum() {
        bounds.row(45, "Returns a sum over the city.");
        bounds.row(45, "Returns 7 at first, then for each fixture");
        bounds.same("no fixtures", sum(0, 0, 0, 0, 0, 0), () -> new Lampwick().checksum());
        bounds.same("in the last hour", sum(0, 0, 0, 0, 0, 4799), () -> Cities.inHour(4799).checksum());
        bounds.same("a new lamp", sum(0, 0, 0, 0, 0, 0, 0, 0), () -> lamps(1).checksum());
        bounds.same("a new service", sum(0, 0, 0, 0, 0, 0, 0, 0), () -> services(1, true).checksum());
        Lampwick dark = lamps(4);
        dark.pass(1);
        bounds.same("what parishes owe is below 0", sum(0, 0, 0, 0, 0, 0, 0, 0, -1, -1, -1, -1, 0, 1), () -> dark.checksum());
    }

    private void checksumOfBounds() {
        Lampwick broken = Cities.worn(60);
        long owed = broken.owes(0);
        bounds.same("a broken mantle, a service worn by 0", sum(0, 0, 300, 60, owed, 0, 0, 0, 9700, 66), () -> broken.checksum());
        Lampwick full = Cities.holding(20000);
        bounds.same("a full holder", sum(0, 0, 0, 0, 0, 0, 20000, 11), () -> full.checksum());
        Lampwick many = services(30, false);
        many.setRetorts(20);
        many.charge(1, 20);
        many.pass(1);
        long[] parts = new long[66];
        for (int i = 0; i < 30; i++) {
            parts[2 * i] = 20;
        }
        parts[64] = 2000 - 600;
        parts[65] = 1;
        bounds.same("30 fixtures, wrapped around", sum(parts), () -> many.checksum());
    }

    private void litShare() {
        bounds.row(46, "Returns the share of lamps that are lit.");
        bounds.row(46, "Returns their number divided by that of all lamps");
        for (int lamps : new int[] {1, 2, 3, 5, 6}) {
            Lampwick x = Cities.street(new int[lamps]);
            bounds.same("none of " + lamps, 0f, () -> x.litShare());
            x.go(0, true);
            bounds.same("all of " + lamps, 1f, () -> x.litShare());
            x.addLighter();
            for (int out = 1; out <= lamps; out++) {
                x.assign(1, out);
                x.go(1, false);
                float due = (float) (lamps - out) / (float) lamps;
                bounds.same((lamps - out) + " of " + lamps, due, () -> x.litShare());
            }
        }
        Lampwick broken = Cities.worn(59);
        bounds.same("lit at 59", 1f, () -> broken.litShare());
        broken.pass(1);
        bounds.same("out at 60", 0f, () -> broken.litShare());
        bounds.row(46, "Throws `ArithmeticException` if there are none");
        bounds.refused("no fixture", ArithmeticException.class, Lampwick::new, city -> city.litShare());
        bounds.refused("services alone", ArithmeticException.class, () -> services(30, true), city -> city.litShare());
        bounds.same("one lamp, out", 0f, () -> lamps(1).litShare());
        bounds.same("30 lamps, out", 0f, () -> lamps(30).litShare());
    }

    private void meanHours() {
        bounds.row(47, "Returns the mean hours that lamps burnt.");
        bounds.row(47, "Returns the sum divided by their number");
        for (int hours : new int[] {0, 1, 59, 60, 61}) {
            Lampwick x = Cities.worn(hours);
            double burnt = Math.min(60, hours);
            bounds.same(hours + " hours of one lamp", burnt, () -> x.meanHours());
            x.addLamp(0, 0, 0);
            bounds.same(hours + " hours, two lamps", burnt / 2.0, () -> x.meanHours());
            x.addLamp(0, 0, 0);
            bounds.same(hours + " hours, three lamps", burnt / 3.0, () -> x.meanHours());
        }
        Lampwick x = kinds();
        bounds.same("hours of services do not count", 4.0, () -> x.meanHours());
        bounds.row(47, "Throws `ArithmeticException` if there are no lamps");
        bounds.refused("no fixture", ArithmeticException.class, Lampwick::new, city -> city.meanHours());
        bounds.refused("services alone", ArithmeticException.class, () -> services(30, false), city -> city.meanHours());
        bounds.same("one lamp, never lit", 0.0, () -> lamps(1).meanHours());
    }
}
