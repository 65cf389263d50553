/** Bounds of nodes, mains, leaks, flows and pressures: the Terms' "Mains", and promises 9 to 14. */
final class MainsBounds {
    private final Boundaries bounds;

    MainsBounds(Boundaries bounds) {
        this.bounds = bounds;
    }

    void test() {
        nodes();
        measures();
        closedMains();
        closedTwice();
        leaks();
        leaksOfAnHour();
        flows();
        emptyFlows();
        lampsAskFor5();
        cutOffAsksForNothing();
        coinsForAnHour();
        pressureAtWorks();
        pressureByMeasures();
        pressureByFloats();
        pressureBehindClosedMains();
        lay();
        tooManyNodes();
        setAge();
        setShut();
        setFrozen();
        flow();
        pressure();
    }

    private static Lampwick oneMain(int length, int diameter, int rise) {
        Lampwick x = new Lampwick();
        x.lay(0, length, diameter, rise);
        return x;
    }

    /** The works and 11 nodes in a row. */
    private static Lampwick chain() {
        Lampwick x = new Lampwick();
        for (int node = 0; node < 11; node++) {
            x.lay(node, 1, 9, 0);
        }
        return x;
    }

    private void nodes() {
        bounds.term("Nodes are numbered from 0, the works, at first the only one;");
        bounds.refused("no node 1 at first", IndexOutOfBoundsException.class, Lampwick::new, city -> city.flow(1));
        bounds.same("the works at first", 0, () -> new Lampwick().flow(0));
        Lampwick x = new Lampwick();
        for (int node = 1; node < 12; node++) {
            int due = node;
            bounds.same("node " + due, due, () -> x.lay(due - 1, 1, 9, 0));
            bounds.same("main " + due + " is numbered as its node", 0, () -> x.setAge(due, due));
        }
        bounds.refused("at most 12", IllegalStateException.class, MainsBounds::chain, city -> city.lay(0, 1, 9, 0));
        for (int node = 1; node < 12; node++) {
            int told = node;
            bounds.same("age of main " + told, told, () -> x.setAge(told, 0));
        }
    }

    private void measures() {
        bounds.term("It has a length of 1 to 99, a diameter of 1 to 9");
        for (int length : new int[] {1, 2, 98, 99}) {
            Lampwick x = oneMain(length, 1, 0);
            x.addService(1, 10, 100, false);
            bounds.same("length " + length, 30f - (float) (100 * length) / 100f, () -> x.pressure(1));
        }
        for (int diameter : new int[] {1, 2, 8, 9}) {
            Lampwick x = oneMain(99, diameter, 0);
            x.addService(1, 10, 100, false);
            int fifth = diameter * diameter * diameter * diameter * diameter;
            bounds.same("diameter " + diameter, 30f - (float) 9900 / (float) (100 * fifth), () -> x.pressure(1));
        }
        for (int rise : new int[] {-50, -49, -1, 0, 1, 49, 50}) {
            bounds.same("rise " + rise, 30f + (float) rise / 20f, () -> oneMain(1, 1, rise).pressure(1));
        }
        bounds.same("an age of 0 at first", 0, () -> oneMain(99, 9, 0).setAge(1, 99));
        bounds.same("at the age of 0 no leak", 0, () -> oneMain(99, 9, 0).flow(1));
    }

    /** Main 1, and 2 and 3 behind it, of which one leaks by 9 each and serves 4. */
    private static Lampwick fork() {
        Lampwick x = new Lampwick();
        x.lay(0, 10, 9, 0);
        x.lay(1, 10, 9, 0);
        x.lay(1, 10, 9, 0);
        for (int node = 1; node < 4; node++) {
            x.setAge(node, 99);
            x.addService(node, 4, 100, false);
        }
        x.addService(0, 4, 100, false);
        x.setRetorts(1);
        x.charge(1, 20);
        return x;
    }

    private static void close(Lampwick x, int main, boolean isByFrost) {
        if (isByFrost) {
            x.setFrozen(main, true);
        } else {
            x.setShut(main, true);
        }
    }

    private void closedMains() {
        bounds.term("It can be shut, or be frozen; then nothing behind it has gas, or leaks.");
        for (boolean isByFrost : new boolean[] {false, true}) {
            for (int main = 1; main < 4; main++) {
                Lampwick x = fork();
                close(x, main, isByFrost);
                int reached = main == 1 ? 0 : 2;
                String call = (isByFrost ? "frozen " : "shut ") + main;
                bounds.same(call + ", flow of the works", 4 + 13 * reached, () -> x.flow(0));
                for (int node = 1; node < 4; node++) {
                    int told = node;
                    boolean hasGas = main != 1 && node != main;
                    int flow = node == 1 ? 26 : 13;
                    bounds.same(call + ", flow of " + node, hasGas ? flow : 0, () -> x.flow(told));
                }
                x.pass(1);
                bounds.same(call + ", leaks", 9L * reached, () -> x.account('l'));
                bounds.same(call + ", burnt", 4L + 4 * reached, () -> x.account('b'));
            }
        }
        Lampwick open = fork();
        open.pass(1);
        bounds.same("none closed, leaks", 27L, () -> open.account('l'));
        bounds.same("none closed, burnt", 16L, () -> open.account('b'));
    }

    private void closedTwice() {
        Lampwick x = fork();
        x.setShut(1, true);
        x.setFrozen(1, true);
        bounds.same("shut and frozen", 4, () -> x.flow(0));
        x.setShut(1, false);
        bounds.same("frozen still", 4, () -> x.flow(0));
        x.setShut(1, true);
        x.setFrozen(1, false);
        bounds.same("shut still", 4, () -> x.flow(0));
        x.setShut(2, true);
        x.setShut(1, false);
        bounds.same("shut farther on", 4 + 26, () -> x.flow(0));
        x.setShut(2, false);
        bounds.same("open", 4 + 39, () -> x.flow(0));
    }

    private void leaks() {
        bounds.term("An open one leaks in each hour its length times its age, divided by 100, cut.");
        int[][] cases = {{99, 0, 0}, {1, 99, 0}, {99, 1, 0}, {33, 3, 0}, {50, 2, 1}, {25, 4, 1}, {98, 1, 0}, {99, 2, 1},
            {66, 3, 1}, {67, 3, 2}, {50, 4, 2}, {98, 99, 97}, {99, 99, 98}, {99, 98, 97}};
        for (int[] told : cases) {
            Lampwick x = oneMain(told[0], 9, 0);
            x.setAge(1, told[1]);
            bounds.same("length " + told[0] + ", age " + told[1], told[2], () -> x.flow(1));
            x.setRetorts(1);
            x.charge(1, 1);
            x.pass(1);
            bounds.same("length " + told[0] + ", age " + told[1] + ", in an hour", (long) told[2], () -> x.account('l'));
        }
    }

    private void leaksOfAnHour() {
        Lampwick x = new Lampwick();
        x.lay(0, 99, 9, 0);
        x.lay(0, 99, 9, 0);
        x.setAge(1, 1);
        x.setAge(2, 1);
        x.setRetorts(1);
        x.charge(1, 1);
        x.pass(2);
        bounds.same("each main and each hour is cut", 0L, () -> x.account('l'));
        x.setAge(2, 2);
        x.pass(3);
        bounds.same("one of them, in each of three hours", 3L, () -> x.account('l'));
        x.setShut(2, true);
        x.pass(1);
        bounds.same("one that is shut is not open", 3L, () -> x.account('l'));
    }

    private void flows() {
        bounds.term("The flow of a main is, by now, its leak,");
        Lampwick x = chain();
        for (int node = 0; node < 12; node++) {
            x.addService(node, node + 1, 100, false);
        }
        for (int node = 0; node < 12; node++) {
            int told = node;
            int due = 78 - node * (node + 1) / 2;
            bounds.same("of a chain of 12, at " + node, due, () -> x.flow(told));
        }
        x.setDemand(11, 99);
        bounds.same("by now, at the end", 99, () -> x.flow(11));
        bounds.same("by now, at the works", 78 - 12 + 99, () -> x.flow(0));
        x.setShut(6, true);
        bounds.same("of open mains alone", 1 + 2 + 3 + 4 + 5 + 6, () -> x.flow(0));
        bounds.same("behind it none", 0, () -> x.flow(11));
        Lampwick leaky = fork();
        bounds.same("its leak, what is asked for, and flows", 9 + 4 + 2 * 13, () -> leaky.flow(1));
        bounds.same("its leak and what is asked for", 13, () -> leaky.flow(2));
        leaky.setDemand(1, 0);
        bounds.same("its leak alone", 9, () -> leaky.flow(2));
        leaky.setAge(2, 0);
        bounds.same("nothing", 0, () -> leaky.flow(2));
    }

    private void emptyFlows() {
        Lampwick x = chain();
        for (int node = 0; node < 12; node++) {
            int told = node;
            bounds.same("nothing asked for at " + node, 0, () -> x.flow(told));
            bounds.same("nothing lost on the way to " + node, 30f, () -> x.pressure(told));
        }
        Lampwick full = new Lampwick();
        for (int node = 1; node < 12; node++) {
            full.lay(0, 99, 9, 0);
            full.setAge(node, 99);
        }
        for (int i = 0; i < 30; i++) {
            full.addService(1, 99, 100, false);
        }
        bounds.same("the greatest", 11 * 98 + 30 * 99, () -> full.flow(0));
        bounds.same("the greatest of a main", 98 + 30 * 99, () -> full.flow(1));
    }

    private void lampsAskFor5() {
        bounds.term("Asked for are 5 for each lamp that is lit");
        Lampwick x = Cities.street(0, 10, 20, 30, 40, 50);
        bounds.same("out", 0, () -> x.flow(0));
        x.go(0, true);
        bounds.same("six lit", 30, () -> x.flow(0));
        x.unassign(0);
        x.go(0, false);
        bounds.same("one lit", 5, () -> x.flow(0));
        x.setFog(true);
        bounds.same("the holder and the hour do not matter", 5, () -> x.flow(0));
    }

    private void cutOffAsksForNothing() {
        Lampwick x = new Lampwick();
        for (int demand : new int[] {0, 1, 98, 99}) {
            int service = x.addService(0, demand, 100, false);
            bounds.same("asks for " + demand, demand, () -> x.flow(0));
            x.cutOff(service, true);
            bounds.same("cut off", 0, () -> x.flow(0));
            x.cutOff(service, false);
            bounds.same("joined again", demand, () -> x.flow(0));
            x.cutOff(service, true);
        }
        Lampwick coins = new Lampwick();
        coins.addService(0, 10, 100, true);
        coins.coins(0, 99);
        bounds.same("by coins", 10, () -> coins.flow(0));
        coins.cutOff(0, true);
        bounds.same("by coins, cut off", 0, () -> coins.flow(0));
    }

    private void coinsForAnHour() {
        int[][] cases = {{10, 100, 1}, {11, 100, 2}, {11, 90, 1}, {11, 91, 1}, {12, 91, 1}, {12, 92, 2}, {99, 120, 12},
            {99, 80, 8}, {1, 100, 1}, {91, 100, 10}, {90, 100, 9}};
        for (int[] told : cases) {
            int cost = told[2];
            String call = told[0] + " at " + told[1] + " hundredths, costs " + cost;
            bounds.same(call + ", no coins", 0, () -> byCoins(told[0], told[1], 0).flow(0));
            bounds.same(call + ", one too few", 0, () -> byCoins(told[0], told[1], cost - 1).flow(0));
            bounds.same(call + ", just enough", told[0], () -> byCoins(told[0], told[1], cost).flow(0));
            bounds.same(call + ", one more", told[0], () -> byCoins(told[0], told[1], cost + 1).flow(0));
        }
        bounds.same("1 at 99 hundredths costs nothing", 1, () -> byCoins(1, 99, 0).flow(0));
        bounds.same("1 at 80 hundredths costs nothing", 1, () -> byCoins(1, 80, 0).flow(0));
        bounds.same("0 costs nothing", 0, () -> byCoins(0, 120, 0).flow(0));
        Lampwick x = new Lampwick();
        x.addService(0, 99, 120, false);
        bounds.same("one not by coins asks without them", 99, () -> x.flow(0));
    }

    private static Lampwick byCoins(int demand, int hundredths, int coins) {
        Lampwick x = new Lampwick();
        x.addService(0, demand, hundredths, true);
        if (coins > 0) {
            x.coins(0, coins);
        }
        return x;
    }

    private void pressureAtWorks() {
        bounds.term("The pressure at the works is told for each hour of the day, 1 to 60, 30 at first;");
        Lampwick x = new Lampwick();
        for (int hour = 0; hour < 25; hour++) {
            bounds.same("30 at first in hour " + hour, 30f, () -> x.pressure(0));
            x.pass(1);
        }
        Lampwick told = new Lampwick();
        int[] pressures = {1, 2, 59, 60};
        for (int hour = 0; hour < 4; hour++) {
            told.setPressure(hour, pressures[hour]);
        }
        for (int hour = 0; hour < 26; hour++) {
            float due = hour % 24 < 4 ? pressures[hour % 24] : 30;
            bounds.same("in hour " + hour, due, () -> told.pressure(0));
            told.pass(1);
        }
        Lampwick busy = new Lampwick();
        busy.addService(0, 99, 100, false);
        bounds.same("no flow lessens that at the works", 30f, () -> busy.pressure(0));
    }

    private void pressureByMeasures() {
        int[][] cases = {{1, 1, -50, 0}, {1, 1, 50, 0}, {99, 1, 0, 1}, {99, 1, 0, 99}, {1, 1, 0, 99}, {99, 9, 50, 99},
            {99, 9, -50, 1}, {1, 9, 0, 1}, {98, 2, -1, 98}, {50, 5, 1, 50}, {7, 3, 13, 17}, {4, 1, 0, 25}};
        for (int[] told : cases) {
            Lampwick x = oneMain(told[0], told[1], told[2]);
            x.addService(1, told[3], 100, false);
            float square = told[3] * told[3] * told[0];
            float fifth = 100 * told[1] * told[1] * told[1] * told[1] * told[1];
            float quotient = square / fifth;
            float difference = 30f - quotient;
            float twentieth = told[2] / 20f;
            float due = difference + twentieth;
            bounds.same("length, diameter, rise, flow " + java.util.Arrays.toString(told), due, () -> x.pressure(1));
        }
        Lampwick low = oneMain(1, 1, -50);
        low.setPressure(0, 1);
        bounds.same("below 0", -1.5f, () -> low.pressure(1));
        Lampwick none = oneMain(100 / 4, 1, 0);
        none.addService(1, 10, 100, false);
        none.setPressure(0, 25);
        bounds.same("just 0", 0f, () -> none.pressure(1));
    }

    /** Cases in which doubles, or another order of the sums, would tell another float. */
    private void pressureByFloats() {
        Lampwick x = new Lampwick();
        float above = 30f;
        for (int node = 1; node < 12; node++) {
            x.lay(node - 1, 9 * node, 1 + node % 3 * 2, 7 * node - 50);
            x.setAge(node, 9 * node - 1);
        }
        for (int i = 0; i < 30; i++) {
            x.addService(i % 12, 3 * i, 100, false);
        }
        boolean isOtherByDoubles = false;
        boolean isOtherByOrder = false;
        for (int node = 1; node < 12; node++) {
            long square = (long) x.flow(node) * x.flow(node) * 9 * node;
            long diameter = 1 + node % 3 * 2;
            long fifth = 100 * diameter * diameter * diameter * diameter * diameter;
            float ahead = above;
            float difference = ahead - (float) square / (float) fifth;
            float due = difference + (float) (7 * node - 50) / 20f;
            int told = node;
            bounds.same("by floats, node " + node, due, () -> x.pressure(told));
            isOtherByDoubles |= due != (float) ((double) ahead - (double) square / fifth + (7 * node - 50) / 20.0);
            isOtherByOrder |= due != ahead + (float) (7 * node - 50) / 20f - (float) square / (float) fifth;
            above = due;
        }
        boolean isTelling = isOtherByDoubles && isOtherByOrder;
        bounds.same("the cases tell floats from doubles and orders apart", true, () -> isTelling);
        Lampwick wide = oneMain(99, 1, 0);
        wide.setAge(1, 99);
        for (int i = 0; i < 30; i++) {
            wide.addService(1, 99, 100, false);
        }
        long flow = 98 + 30 * 99;
        bounds.same("the greatest loss", 30f - (float) (flow * flow * 99) / 100f, () -> wide.pressure(1));
    }

    private void pressureBehindClosedMains() {
        bounds.term("Behind a main that is shut or frozen it is 0.");
        for (boolean isByFrost : new boolean[] {false, true}) {
            for (int main : new int[] {1, 5, 11}) {
                Lampwick x = chain();
                close(x, main, isByFrost);
                for (int node = 0; node < 12; node++) {
                    int told = node;
                    bounds.same("closed " + main + ", at " + node, node < main ? 30f : 0f, () -> x.pressure(told));
                }
            }
        }
        Lampwick asked = chain();
        bounds.same("asked for while open", 30f, () -> asked.pressure(11));
        asked.setShut(5, true);
        bounds.same("then shut", 0f, () -> asked.pressure(11));
        asked.setShut(5, false);
        bounds.same("open again", 30f, () -> asked.pressure(11));
        asked.setFrozen(11, true);
        bounds.same("then frozen", 0f, () -> asked.pressure(11));
        for (int rise : new int[] {-50, 50}) {
            Lampwick hill = oneMain(1, 1, rise);
            hill.setShut(1, true);
            bounds.same("rise " + rise + " does not matter then", 0f, () -> hill.pressure(1));
        }
    }

    private void lay() {
        bounds.row(9, "Lays a main to a new node.");
        bounds.row(9, "Returns the new node.");
        bounds.same("the first", 1, () -> new Lampwick().lay(0, 1, 1, 0));
        bounds.row(9, "Throws `IllegalArgumentException` if a number is out of range");
        bounds.row(9, "`length`: 1 to 99");
        bounds.range(1, 99, Cities::small, (city, length) -> city.lay(2, length, 1, 0), length -> 3);
        bounds.row(9, "`diameter`: 1 to 9");
        bounds.range(1, 9, Cities::small, (city, diameter) -> city.lay(2, 1, diameter, 0), diameter -> 3);
        bounds.row(9, "`rise`: -50 to 50");
        bounds.range(-50, 50, Cities::small, (city, rise) -> city.lay(2, 1, 1, rise), rise -> 3);
        bounds.row(9, "Throws `IndexOutOfBoundsException` if there is no such node");
        bounds.row(9, "`node`: the node from which");
        bounds.index(0, 0, Lampwick::new, (city, node) -> city.lay(node, 1, 1, 0), node -> 1);
        bounds.index(0, 2, Cities::small, (city, node) -> city.lay(node, 1, 1, 0), node -> 3);
        bounds.same("from the last", 11, () -> chainOf(11).lay(10, 99, 9, 50));
        bounds.refused("from none of 11", IndexOutOfBoundsException.class, () -> chainOf(11), city -> city.lay(11, 1, 1, 0));
    }

    private static Lampwick chainOf(int nodes) {
        Lampwick x = new Lampwick();
        for (int node = 1; node < nodes; node++) {
            x.lay(node - 1, 1, 1, 0);
        }
        return x;
    }

    private void tooManyNodes() {
        bounds.row(9, "Throws `IllegalStateException` if there are 12 nodes");
        bounds.same("a 11th", 10, () -> chainOf(10).lay(0, 1, 1, 0));
        bounds.same("a 12th", 11, () -> chainOf(11).lay(0, 1, 1, 0));
        for (int node : new int[] {0, 1, 10, 11}) {
            bounds.refused("a 13th from " + node, IllegalStateException.class, () -> chainOf(12),
                    city -> city.lay(node, 1, 1, 0));
            bounds.refused("a 13th of a full city, from " + node, IllegalStateException.class, Cities::full,
                    city -> city.lay(node, 99, 9, 50));
        }
    }

    private void setAge() {
        bounds.row(10, "Tells the age of a main.");
        bounds.row(10, "Returns the age before.");
        Lampwick x = oneMain(50, 9, 0);
        int before = 0;
        for (int years : new int[] {99, 0, 1, 98, 99, 99}) {
            int due = before;
            bounds.same("to " + years, due, () -> x.setAge(1, years));
            bounds.same("leak by " + years, 50 * years / 100, () -> x.flow(1));
            before = years;
        }
        bounds.row(10, "`years`: 0 to 99");
        bounds.row(10, "Throws `IllegalArgumentException` if it is out of range");
        bounds.range(0, 99, Cities::small, (city, years) -> city.setAge(1, years), years -> 10);
        bounds.row(10, "`main`: the main");
        bounds.row(10, "Throws `IndexOutOfBoundsException` if there is no such main, the works being none");
        bounds.index(1, 2, Cities::small, (city, main) -> city.setAge(main, 5), main -> main == 1 ? 10 : 0);
        bounds.index(1, 11, Cities::full, (city, main) -> city.setAge(main, 5), main -> 4 * main);
        bounds.refused("no main at first", IndexOutOfBoundsException.class, Lampwick::new, city -> city.setAge(1, 5));
        bounds.refused("the works are none", IndexOutOfBoundsException.class, Lampwick::new, city -> city.setAge(0, 5));
    }

    private void setShut() {
        bounds.row(11, "Shuts a main, or opens it.");
        bounds.row(11, "`is`: whether it is shut then");
        bounds.row(11, "Returns whether it was.");
        Lampwick x = oneMain(1, 1, 0);
        bounds.same("open at first", false, () -> x.setShut(1, false));
        bounds.same("open still", false, () -> x.setShut(1, true));
        bounds.same("shut", true, () -> x.setShut(1, true));
        bounds.same("not frozen by that", false, () -> x.setFrozen(1, false));
        bounds.same("shut still", true, () -> x.setShut(1, false));
        bounds.same("open again", false, () -> x.setShut(1, false));
        bounds.row(11, "`main`: the main");
        bounds.row(11, "Throws `IndexOutOfBoundsException` if there is no such main, the works being none");
        for (boolean is : new boolean[] {true, false}) {
            bounds.index(1, 2, Cities::small, (city, main) -> city.setShut(main, is), main -> false);
            bounds.index(1, 11, Cities::full, (city, main) -> city.setShut(main, is), main -> false);
            bounds.refused("none at first", IndexOutOfBoundsException.class, Lampwick::new, city -> city.setShut(1, is));
        }
    }

    private void setFrozen() {
        bounds.row(12, "Tells whether a main is frozen.");
        bounds.row(12, "`is`: whether it is frozen then");
        bounds.row(12, "Returns whether it was.");
        Lampwick x = oneMain(1, 1, 0);
        bounds.same("not at first", false, () -> x.setFrozen(1, false));
        bounds.same("not still", false, () -> x.setFrozen(1, true));
        bounds.same("frozen", true, () -> x.setFrozen(1, true));
        bounds.same("not shut by that", false, () -> x.setShut(1, false));
        bounds.same("frozen still", true, () -> x.setFrozen(1, false));
        bounds.same("not again", false, () -> x.setFrozen(1, false));
        bounds.row(12, "`main`: the main");
        bounds.row(12, "Throws `IndexOutOfBoundsException` if there is no such main, the works being none");
        for (boolean is : new boolean[] {true, false}) {
            bounds.index(1, 2, Cities::small, (city, main) -> city.setFrozen(main, is), main -> false);
            bounds.index(1, 11, Cities::full, (city, main) -> city.setFrozen(main, is), main -> false);
            bounds.refused("none at first", IndexOutOfBoundsException.class, Lampwick::new, city -> city.setFrozen(1, is));
        }
    }

    private void flow() {
        bounds.row(13, "Returns the flow of a main, of the works that of all mains");
        Lampwick x = fork();
        bounds.same("of the works", 43, () -> x.flow(0));
        bounds.same("of a main", 39, () -> x.flow(1));
        bounds.row(13, "Returns the flow, 0 without gas.");
        x.setFrozen(1, true);
        bounds.same("of the works, with what is asked for there", 4, () -> x.flow(0));
        bounds.same("of one without gas", 0, () -> x.flow(1));
        bounds.same("of one behind it", 0, () -> x.flow(3));
        bounds.row(13, "`node`: its node");
        bounds.row(13, "Throws `IndexOutOfBoundsException` if there is no such node");
        bounds.index(0, 0, Lampwick::new, (city, node) -> city.flow(node), node -> 0);
        bounds.index(0, 11, MainsBounds::chain, (city, node) -> city.flow(node), node -> 0);
        bounds.index(0, 2, Cities::small, (city, node) -> city.flow(node), node -> node == 2 ? 25 : 32);
    }

    private void pressure() {
        bounds.row(14, "Returns the pressure at a node.");
        bounds.row(14, "Returns the pressure, by the hour of now.");
        Lampwick x = oneMain(1, 1, 50);
        x.setPressure(0, 60);
        x.setPressure(1, 1);
        x.setPressure(23, 2);
        bounds.same("in hour 0", 62.5f, () -> x.pressure(1));
        x.pass(1);
        bounds.same("in hour 1", 3.5f, () -> x.pressure(1));
        x.pass(22);
        bounds.same("in hour 23", 4.5f, () -> x.pressure(1));
        x.pass(1);
        bounds.same("in hour 24, as in hour 0", 62.5f, () -> x.pressure(1));
        bounds.row(14, "`node`: the node");
        bounds.row(14, "Throws `IndexOutOfBoundsException` if there is no such node");
        bounds.index(0, 0, Lampwick::new, (city, node) -> city.pressure(node), node -> 30f);
        bounds.index(0, 11, MainsBounds::chain, (city, node) -> city.pressure(node), node -> 30f);
    }
}
