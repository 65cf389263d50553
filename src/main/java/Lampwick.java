import java.util.Arrays;
import java.util.NoSuchElementException;

/** A city lit by gas: works, mains, lamps, services, lighters' rounds, hours and bills. */
public final class Lampwick {
    private static final int HOURS_OF_DAY = 24;
    private static final int DAYS = 200;
    private static final int LAST_HOUR = 4799;
    private static final int MOST_HOURS = 48;

    private static final int MOST_TONS = 999;
    private static final int MOST_TONS_AT_ONCE = 99;
    private static final int MOST_RETORTS = 20;
    private static final int HOLDER_ROOM = 20000;
    private static final int FOUL_LIME = 100;
    private static final int FOUL_LOSS = 5;
    private static final int FIRST_PRESSURE = 30;
    private static final int MOST_PRESSURE = 60;
    private static final int[] GAS_OF_TON = {90, 100, 110, 130};
    private static final int[] CANDLES_OF_TON = {12, 14, 16, 26};

    private static final int MOST_NODES = 12;
    private static final int MOST_LENGTH = 99;
    private static final int MOST_DIAMETER = 9;
    private static final int MOST_RISE = 50;
    private static final int MOST_YEARS = 99;

    private static final int MOST_FIXTURES = 30;
    private static final int MOST_PLACE = 999;
    private static final int PARISHES = 4;
    private static final int MOST_DEMAND = 99;
    private static final int LEAST_HUNDREDTHS = 80;
    private static final int MOST_HUNDREDTHS = 120;
    private static final int MOST_COINS_AT_ONCE = 99;
    private static final int GAS_OF_LAMP = 5;
    private static final int PAY_OF_LAMP_HOUR = 2;
    private static final int BROKEN = 60;
    private static final int BURNING_PRESSURE = 5;
    private static final int WEARING_PRESSURE = 40;

    private static final int MOST_LIGHTERS = 6;
    private static final int MOST_LAMPS = 6;
    private static final int SETS_OF_LAMPS = 64;

    private final Works works = new Works();
    private final Net net = new Net();
    private final Sky sky = new Sky();
    private final Planner planner = new Planner();
    private final Walk walk = new Walk();
    private final Fixture[] fixtures = new Fixture[MOST_FIXTURES];
    private final Round[] rounds = new Round[MOST_LIGHTERS];
    private final int[] lampHours = new int[PARISHES];
    private final int[] fines = new int[PARISHES];
    private int fixtureCount;
    private int roundCount;
    private int wages;
    private int hour;
    private boolean isStrike;

    public Lampwick() {
    }

    public int charge(int kind, int tons) throws IllegalArgumentException, IllegalStateException {
        if (!isWithin(kind, 0, GAS_OF_TON.length - 1) || !isWithin(tons, 1, MOST_TONS_AT_ONCE)) {
            throw new IllegalArgumentException("kinds are 0 to 3, tons 1 to 99");
        }
        if (works.waiting + tons > MOST_TONS) {
            throw new IllegalStateException("more than 999 tons would wait");
        }
        works.queue(new Charge(GAS_OF_TON[kind], CANDLES_OF_TON[kind], tons));
        return works.waiting;
    }

    public int setRetorts(int retorts) throws IllegalArgumentException {
        if (!isWithin(retorts, 0, MOST_RETORTS)) {
            throw new IllegalArgumentException("retorts are 0 to 20");
        }
        int before = works.retorts;
        works.retorts = retorts;
        return before;
    }

    public int holder() {
        return works.gas;
    }

    public int candles() {
        return works.lime < FOUL_LIME ? works.candles : Math.max(0, works.candles - FOUL_LOSS);
    }

    public int lime() {
        return works.lime;
    }

    public int changeLime() {
        int before = works.lime;
        works.lime = 0;
        return before;
    }

    public int setPressure(int hour, int pressure) throws IllegalArgumentException {
        if (!isWithin(hour, 0, HOURS_OF_DAY - 1) || !isWithin(pressure, 1, MOST_PRESSURE)) {
            throw new IllegalArgumentException("hours are 0 to 23, pressures 1 to 60");
        }
        int before = works.pressures[hour];
        works.pressures[hour] = pressure;
        return before;
    }

    public int lay(int node, int length, int diameter, int rise)
            throws IndexOutOfBoundsException, IllegalArgumentException, IllegalStateException {
        Node ahead = nodeAt(node);
        if (!isWithin(length, 1, MOST_LENGTH) || !isWithin(diameter, 1, MOST_DIAMETER)
                || !isWithin(rise, -MOST_RISE, MOST_RISE)) {
            throw new IllegalArgumentException("a main is 1 to 99 long, 1 to 9 wide, and rises by -50 to 50");
        }
        if (net.count >= MOST_NODES) {
            throw new IllegalStateException("there are 12 nodes");
        }
        return net.add(new Node(ahead, length, diameter, rise));
    }

    public int setAge(int main, int years) throws IndexOutOfBoundsException, IllegalArgumentException {
        Node node = mainAt(main);
        if (!isWithin(years, 0, MOST_YEARS)) {
            throw new IllegalArgumentException("years are 0 to 99");
        }
        int before = node.age;
        node.age = years;
        return before;
    }

    public boolean setShut(int main, boolean is) throws IndexOutOfBoundsException {
        Node node = mainAt(main);
        boolean before = node.isShut;
        node.isShut = is;
        return before;
    }

    public boolean setFrozen(int main, boolean is) throws IndexOutOfBoundsException {
        Node node = mainAt(main);
        boolean before = node.isFrozen;
        node.isFrozen = is;
        return before;
    }

    public int flow(int node) throws IndexOutOfBoundsException {
        Node at = nodeAt(node);
        reckonMains();
        return at.flow;
    }

    public float pressure(int node) throws IndexOutOfBoundsException {
        Node at = nodeAt(node);
        reckonMains();
        return at.pressure;
    }

    public int addLamp(int node, int place, int parish)
            throws IndexOutOfBoundsException, IllegalArgumentException, IllegalStateException {
        Node at = nodeAt(node);
        if (!isWithin(place, 0, MOST_PLACE) || !isWithin(parish, 0, PARISHES - 1)) {
            throw new IllegalArgumentException("places are 0 to 999, parishes 0 to 3");
        }
        refuseIfFull();
        return addFixture(new Lamp(at, fixtureCount, place, parish));
    }

    public int addService(int node, int demand, int hundredths, boolean hasCoins)
            throws IndexOutOfBoundsException, IllegalArgumentException, IllegalStateException {
        Node at = nodeAt(node);
        if (!isWithin(demand, 0, MOST_DEMAND) || !isWithin(hundredths, LEAST_HUNDREDTHS, MOST_HUNDREDTHS)) {
            throw new IllegalArgumentException("demands are 0 to 99, hundredths 80 to 120");
        }
        refuseIfFull();
        return addFixture(new Service(at, demand, hundredths, hasCoins));
    }

    public int setDemand(int fixture, int demand)
            throws IndexOutOfBoundsException, IllegalArgumentException, UnsupportedOperationException {
        Fixture at = fixtureAt(fixture);
        if (!isWithin(demand, 0, MOST_DEMAND)) {
            throw new IllegalArgumentException("demands are 0 to 99");
        }
        Service service = serviceOf(at);
        int before = service.demand;
        service.demand = demand;
        return before;
    }

    public int coins(int fixture, int coins)
            throws IndexOutOfBoundsException, IllegalArgumentException, UnsupportedOperationException {
        Fixture at = fixtureAt(fixture);
        if (!isWithin(coins, 1, MOST_COINS_AT_ONCE)) {
            throw new IllegalArgumentException("coins are 1 to 99");
        }
        Service service = serviceOf(at);
        if (!service.hasCoins) {
            throw new UnsupportedOperationException("it does not work by coins");
        }
        service.coins += coins;
        return service.coins;
    }

    public boolean cutOff(int fixture, boolean is)
            throws IndexOutOfBoundsException, UnsupportedOperationException {
        Service service = serviceOf(fixtureAt(fixture));
        boolean before = service.isCutOff;
        service.isCutOff = is;
        return before;
    }

    public int pay(int fixture) throws IndexOutOfBoundsException, UnsupportedOperationException {
        Service service = serviceOf(fixtureAt(fixture));
        int before = service.arrears;
        service.arrears = 0;
        return before;
    }

    public int mend(int fixture) throws IndexOutOfBoundsException, UnsupportedOperationException {
        Lamp lamp = lampOf(fixtureAt(fixture));
        int before = lamp.worn;
        lamp.worn = 0;
        return before;
    }

    public char state(int fixture) throws IndexOutOfBoundsException {
        return fixtureAt(fixture).sign();
    }

    public int of(int fixture, char what) throws IndexOutOfBoundsException, IllegalArgumentException {
        Fixture at = fixtureAt(fixture);
        switch (what) {
            case 'b':
                return at.hours;
            case 'g':
                return at.gas;
            case 'w':
            case 'm':
            case 'd':
            case 't':
            case 'a':
            case 'c':
                return at.tell(what);
            default:
                throw new IllegalArgumentException("there is no such thing of a fixture");
        }
    }

    public int addLighter() throws IllegalStateException {
        if (roundCount >= MOST_LIGHTERS) {
            throw new IllegalStateException("there are 6 lighters");
        }
        rounds[roundCount] = new Round();
        roundCount++;
        return roundCount - 1;
    }

    public int assign(int lighter, int fixture)
            throws IndexOutOfBoundsException, UnsupportedOperationException, IllegalStateException {
        Round round = roundAt(lighter);
        Lamp lamp = lampOf(fixtureAt(fixture));
        if (round.indexOf(lamp, round.size) >= 0) {
            throw new UnsupportedOperationException("the lamp is in this round");
        }
        if (round.size >= MOST_LAMPS) {
            throw new IllegalStateException("the round has 6 lamps");
        }
        round.lamps[round.size] = lamp;
        round.size++;
        return round.size;
    }

    public int unassign(int lighter) throws IndexOutOfBoundsException, NoSuchElementException {
        Round round = roundAt(lighter);
        if (round.size <= 0) {
            throw new NoSuchElementException("the round has no lamp");
        }
        round.size--;
        return round.lamps[round.size].number;
    }

    public boolean setIll(int lighter, boolean is) throws IndexOutOfBoundsException {
        Round round = roundAt(lighter);
        boolean before = round.isIll;
        round.isIll = is;
        return before;
    }

    public boolean setStrike(boolean is) {
        boolean before = isStrike;
        isStrike = is;
        return before;
    }

    public boolean setFog(boolean is) {
        boolean before = sky.isFoggy;
        sky.isFoggy = is;
        return before;
    }

    public int go(int lighter, boolean isLighting)
            throws IndexOutOfBoundsException, UnsupportedOperationException {
        Round round = roundAt(lighter);
        if (round.isIll || isStrike) {
            throw new UnsupportedOperationException("the lighter is ill, or there is a strike");
        }
        int changed = 0;
        int minute = 0;
        int place = 0;
        for (int i = 0; i < round.size; i++) {
            Lamp lamp = round.lamps[i];
            minute += pace() * stepMinutes(place, lamp.place);
            place = lamp.place;
            if (isLighting ? canBeLit(lamp) : lamp.isLit) {
                lamp.isLit = isLighting;
                lamp.minute = minute;
                changed++;
            }
        }
        wages += round.size;
        return changed;
    }

    public int minutes(int lighter) throws IndexOutOfBoundsException {
        return pace() * roundAt(lighter).length();
    }

    public int shortest(int lighter) throws IndexOutOfBoundsException {
        Round round = roundAt(lighter);
        planner.prepare(round);
        return pace() * planner.fewestFrom(round, 0, 0);
    }

    public int arrange(int lighter) throws IndexOutOfBoundsException {
        Round round = roundAt(lighter);
        int before = round.length();
        planner.prepare(round);
        planner.reorder(round);
        return pace() * (before - round.length());
    }

    public int walk(int lighter) throws IndexOutOfBoundsException {
        walk.begin(roundAt(lighter));
        return walk.size;
    }

    public int next() throws IllegalStateException, NoSuchElementException {
        if (!walk.isBegun || walk.isPaused) {
            throw new IllegalStateException("no walk was begun, or it is paused");
        }
        if (walk.position >= walk.size) {
            throw new NoSuchElementException("no lamp is left");
        }
        walk.position++;
        return walk.numbers[walk.position - 1];
    }

    public int pause(boolean is) throws IllegalStateException {
        if (!walk.isBegun) {
            throw new IllegalStateException("no walk was begun");
        }
        walk.isPaused = is;
        return walk.size - walk.position;
    }

    public boolean setCloudy(int day, boolean is) throws IllegalArgumentException {
        refuseIfNoDay(day);
        boolean before = sky.cloudy[day];
        sky.cloudy[day] = is;
        return before;
    }

    public char moon(int day) throws IllegalArgumentException {
        refuseIfNoDay(day);
        return sky.moonOf(day);
    }

    public boolean isDue(int hour) throws IllegalArgumentException {
        if (!isWithin(hour, 0, LAST_HOUR)) {
            throw new IllegalArgumentException("hours are 0 to 4799");
        }
        return sky.wantsLamps(hour);
    }

    public int pass(int hours) throws IllegalArgumentException, IllegalStateException {
        if (!isWithin(hours, 1, MOST_HOURS)) {
            throw new IllegalArgumentException("hours are 1 to 48");
        }
        if (hour + hours > LAST_HOUR) {
            throw new IllegalStateException("the hour would be above 4799");
        }
        for (int i = 0; i < hours; i++) {
            passOneHour();
        }
        return hour;
    }

    public int owes(int parish) throws IllegalArgumentException {
        refuseIfNoParish(parish);
        return debtOf(parish);
    }

    public int fines(int parish) throws IllegalArgumentException {
        refuseIfNoParish(parish);
        return fines[parish];
    }

    public int wages() {
        return wages;
    }

    public long account(char which) throws IllegalArgumentException {
        switch (which) {
            case 'm':
                return works.made;
            case 'b':
                return works.burnt;
            case 'l':
                return works.leaked;
            case 'v':
                return works.lost;
            default:
                throw new IllegalArgumentException("there is no such account");
        }
    }

    public long checksum() {
        long sum = 7;
        for (int i = 0; i < fixtureCount; i++) {
            sum = 31 * sum + fixtures[i].gas;
            sum = 31 * sum + fixtures[i].tell('w');
        }
        for (int parish = 0; parish < PARISHES; parish++) {
            sum = 31 * sum + debtOf(parish);
        }
        sum = 31 * sum + works.gas;
        return 31 * sum + hour;
    }

    public float litShare() throws ArithmeticException {
        int lamps = 0;
        int lit = 0;
        for (int i = 0; i < fixtureCount; i++) {
            if (fixtures[i] instanceof Lamp lamp) {
                lamps++;
                lit += lamp.isLit ? 1 : 0;
            }
        }
        if (lamps == 0) {
            throw new ArithmeticException("there are no lamps");
        }
        return (float) lit / (float) lamps;
    }

    public double meanHours() throws ArithmeticException {
        int lamps = 0;
        int hours = 0;
        for (int i = 0; i < fixtureCount; i++) {
            if (fixtures[i] instanceof Lamp lamp) {
                lamps++;
                hours += lamp.hours;
            }
        }
        if (lamps == 0) {
            throw new ArithmeticException("there are no lamps");
        }
        return (double) hours / (double) lamps;
    }

    public boolean isSound() {
        return works.made == works.burnt + works.gas + works.leaked + works.lost
                && areFixturesSound() && areRoundsSound();
    }

    private static boolean isWithin(int number, int least, int most) {
        return number >= least && number <= most;
    }

    private static int stepMinutes(int from, int to) {
        return Math.abs(to - from) / 10 + 1;
    }

    private int pace() {
        return sky.isFoggy ? 2 : 1;
    }

    private Node nodeAt(int node) throws IndexOutOfBoundsException {
        if (!isWithin(node, 0, net.count - 1)) {
            throw new IndexOutOfBoundsException("there is no such node");
        }
        return net.nodes[node];
    }

    private Node mainAt(int main) throws IndexOutOfBoundsException {
        if (!isWithin(main, 1, net.count - 1)) {
            throw new IndexOutOfBoundsException("there is no such main");
        }
        return net.nodes[main];
    }

    private Fixture fixtureAt(int fixture) throws IndexOutOfBoundsException {
        if (!isWithin(fixture, 0, fixtureCount - 1)) {
            throw new IndexOutOfBoundsException("there is no such fixture");
        }
        return fixtures[fixture];
    }

    private Round roundAt(int lighter) throws IndexOutOfBoundsException {
        if (!isWithin(lighter, 0, roundCount - 1)) {
            throw new IndexOutOfBoundsException("there is no such lighter");
        }
        return rounds[lighter];
    }

    private static Lamp lampOf(Fixture fixture) throws UnsupportedOperationException {
        if (fixture instanceof Lamp lamp) {
            return lamp;
        }
        throw new UnsupportedOperationException("it is no lamp");
    }

    private static Service serviceOf(Fixture fixture) throws UnsupportedOperationException {
        if (fixture instanceof Service service) {
            return service;
        }
        throw new UnsupportedOperationException("it is no service");
    }

    private void refuseIfFull() throws IllegalStateException {
        if (fixtureCount >= MOST_FIXTURES) {
            throw new IllegalStateException("there are 30 fixtures");
        }
    }

    private static void refuseIfNoDay(int day) throws IllegalArgumentException {
        if (!isWithin(day, 0, DAYS - 1)) {
            throw new IllegalArgumentException("days are 0 to 199");
        }
    }

    private static void refuseIfNoParish(int parish) throws IllegalArgumentException {
        if (!isWithin(parish, 0, PARISHES - 1)) {
            throw new IllegalArgumentException("parishes are 0 to 3");
        }
    }

    private int addFixture(Fixture fixture) {
        fixtures[fixtureCount] = fixture;
        fixtureCount++;
        return fixtureCount - 1;
    }

    private int debtOf(int parish) {
        return PAY_OF_LAMP_HOUR * lampHours[parish] - fines[parish];
    }

    private void reckonMains() {
        net.forgetDemands();
        for (int i = 0; i < fixtureCount; i++) {
            fixtures[i].node.asked += fixtures[i].demandNow();
        }
        net.reckon(works.pressures[hour % HOURS_OF_DAY]);
    }

    private boolean canBeLit(Lamp lamp) {
        if (lamp.isLit || lamp.isBroken()) {
            return false;
        }
        // Each lamp that this round has lit draws on the mains, so they are reckoned anew for the next.
        reckonMains();
        return lamp.node.canBurn();
    }

    private void passOneHour() {
        works.makeGas();
        reckonMains();
        boolean isServed = works.draw(net.leaks(), demandThatCanBurn());
        boolean areLampsDue = sky.wantsLamps(hour);
        for (int i = 0; i < fixtureCount; i++) {
            boolean canBurn = isServed && fixtures[i].node.canBurn();
            if (fixtures[i] instanceof Lamp lamp) {
                passLampHour(lamp, canBurn, areLampsDue);
            } else if (fixtures[i] instanceof Service service && canBurn) {
                service.burn();
            }
        }
        hour++;
    }

    private int demandThatCanBurn() {
        int sum = 0;
        for (int i = 0; i < fixtureCount; i++) {
            sum += fixtures[i].node.canBurn() ? fixtures[i].demandNow() : 0;
        }
        return sum;
    }

    private void passLampHour(Lamp lamp, boolean canBurn, boolean isLampDue) {
        boolean burns = canBurn && lamp.isLit;
        if (burns) {
            lamp.burn();
            lampHours[lamp.parish]++;
        } else if (isLampDue) {
            lamp.dark++;
            fines[lamp.parish]++;
        }
        lamp.isLit = burns && !lamp.isBroken();
    }

    private boolean areFixturesSound() {
        long burnt = 0;
        for (int i = 0; i < fixtureCount; i++) {
            burnt += fixtures[i].gas;
            if (!isWithin(fixtures[i].tell('w'), 0, BROKEN)) {
                return false;
            }
        }
        return burnt == works.burnt;
    }

    private boolean areRoundsSound() {
        for (int i = 0; i < roundCount; i++) {
            if (rounds[i].hasLampTwice()) {
                return false;
            }
        }
        return true;
    }

    /** Coal by one call of charge: the candles of the holder are mixed once an hour for each. */
    private static final class Charge {
        final int gasOfTon;
        final int candles;
        int tons;
        Charge behind;

        Charge(int gasOfTon, int candles, int tons) {
            this.gasOfTon = gasOfTon;
            this.candles = candles;
            this.tons = tons;
        }
    }

    private static final class Works {
        final int[] pressures = new int[HOURS_OF_DAY];
        Charge first;
        Charge last;
        int waiting;
        int retorts;
        int gas;
        int candles;
        int lime;
        long made;
        long burnt;
        long leaked;
        long lost;

        Works() {
            Arrays.fill(pressures, FIRST_PRESSURE);
        }

        void queue(Charge added) {
            if (first == null || last == null) {
                first = added;
            } else {
                last.behind = added;
            }
            last = added;
            waiting += added.tons;
        }

        void makeGas() {
            int free = retorts;
            int came = 0;
            for (Charge charge = first; charge != null && free > 0; charge = charge.behind) {
                int tons = Math.min(free, charge.tons);
                int amount = tons * charge.gasOfTon;
                free -= tons;
                charge.tons -= tons;
                waiting -= tons;
                came += amount;
                fill(charge.candles, amount);
            }
            dropEmptyCharges();
            made += came;
            lime += came / 100;
        }

        private void fill(int candlesThatCame, int amount) {
            int both = gas + amount;
            if (both > 0) {
                candles = (candles * gas + candlesThatCame * amount) / both;
            }
            gas = Math.min(both, HOLDER_ROOM);
            lost += both - gas;
        }

        private void dropEmptyCharges() {
            while (first != null && first.tons <= 0) {
                first = first.behind;
            }
        }

        boolean draw(int leaks, int demand) {
            if (gas < leaks + demand) {
                int rest = Math.min(gas, leaks);
                leaked += rest;
                gas -= rest;
                return false;
            }
            leaked += leaks;
            burnt += demand;
            gas -= leaks + demand;
            return true;
        }
    }

    /** A node with the main that leads to it; the works are the one node with none ahead. */
    private static final class Node {
        final Node ahead;
        final int length;
        final int diameter;
        final int rise;
        int age;
        boolean isShut;
        boolean isFrozen;
        boolean hasGas;
        int asked;
        int flow;
        float pressure;

        Node(Node ahead, int length, int diameter, int rise) {
            this.ahead = ahead;
            this.length = length;
            this.diameter = diameter;
            this.rise = rise;
        }

        int leak() {
            return hasGas ? length * age / 100 : 0;
        }

        boolean canBurn() {
            return hasGas && pressure >= (float) BURNING_PRESSURE;
        }

        void reckonOwnFlow() {
            hasGas = ahead == null || ahead.hasGas && !isShut && !isFrozen;
            flow = hasGas ? leak() + asked : 0;
        }

        void reckonPressure(int atWorks) {
            if (ahead == null) {
                pressure = (float) atWorks;
            } else if (!hasGas) {
                pressure = 0f;
            } else {
                pressure = ahead.pressure - loss();
                pressure = pressure + (float) rise / 20f;
            }
        }

        private float loss() {
            long square = (long) flow * flow;
            long power = (long) diameter * diameter * diameter * diameter * diameter;
            return (float) (square * length) / (float) (100 * power);
        }
    }

    private static final class Net {
        final Node[] nodes = new Node[MOST_NODES];
        int count = 1;

        Net() {
            nodes[0] = new Node(null, 0, 1, 0);
        }

        int add(Node node) {
            nodes[count] = node;
            count++;
            return count - 1;
        }

        void forgetDemands() {
            for (int i = 0; i < count; i++) {
                nodes[i].asked = 0;
            }
        }

        void reckon(int atWorks) {
            for (int i = 0; i < count; i++) {
                nodes[i].reckonOwnFlow();
            }
            // A node is always laid behind the one ahead of it, so flows add up from the last number down.
            for (int i = count - 1; i > 0; i--) {
                if (nodes[i].ahead != null) {
                    nodes[i].ahead.flow += nodes[i].flow;
                }
            }
            for (int i = 0; i < count; i++) {
                nodes[i].reckonPressure(atWorks);
            }
        }

        int leaks() {
            int sum = 0;
            for (int i = 1; i < count; i++) {
                sum += nodes[i].leak();
            }
            return sum;
        }
    }

    private abstract static class Fixture {
        final Node node;
        int hours;
        int gas;

        Fixture(Node node) {
            this.node = node;
        }

        abstract int demandNow();

        abstract char sign();

        abstract int tell(char what);

        void countBurning(int amount) {
            hours++;
            gas += amount;
        }
    }

    private static final class Lamp extends Fixture {
        final int number;
        final int place;
        final int parish;
        boolean isLit;
        int worn;
        int minute = -1;
        int dark;

        Lamp(Node node, int number, int place, int parish) {
            super(node);
            this.number = number;
            this.place = place;
            this.parish = parish;
        }

        boolean isBroken() {
            return worn >= BROKEN;
        }

        int demandNow() {
            return isLit ? GAS_OF_LAMP : 0;
        }

        char sign() {
            if (isBroken()) {
                return 'b';
            }
            return isLit ? 'l' : 'o';
        }

        int tell(char what) {
            switch (what) {
                case 'w':
                    return worn;
                case 'm':
                    return minute;
                case 'd':
                    return dark;
                default:
                    return 0;
            }
        }

        void burn() {
            countBurning(GAS_OF_LAMP);
            worn = Math.min(BROKEN, worn + (node.pressure > (float) WEARING_PRESSURE ? 5 : 1));
        }
    }

    private static final class Service extends Fixture {
        final int hundredths;
        final boolean hasCoins;
        int demand;
        boolean isCutOff;
        int metered;
        int arrears;
        int coins;

        Service(Node node, int demand, int hundredths, boolean hasCoins) {
            super(node);
            this.demand = demand;
            this.hundredths = hundredths;
            this.hasCoins = hasCoins;
        }

        int meteredInHour() {
            return demand * hundredths / 100;
        }

        int costOfHour() {
            return (meteredInHour() + 9) / 10;
        }

        int demandNow() {
            return isCutOff || hasCoins && coins < costOfHour() ? 0 : demand;
        }

        char sign() {
            return isCutOff ? 'c' : 's';
        }

        int tell(char what) {
            switch (what) {
                case 't':
                    return metered;
                case 'a':
                    return arrears;
                case 'c':
                    return coins;
                default:
                    return 0;
            }
        }

        void burn() {
            int amount = demandNow();
            if (amount <= 0) {
                return;
            }
            countBurning(amount);
            metered += meteredInHour();
            if (hasCoins) {
                coins -= costOfHour();
            } else {
                arrears += costOfHour();
            }
        }
    }

    private static final class Round {
        final Lamp[] lamps = new Lamp[MOST_LAMPS];
        int size;
        boolean isIll;

        int indexOf(Lamp lamp, int end) {
            for (int i = 0; i < end && i < size; i++) {
                if (lamps[i] == lamp) {
                    return i;
                }
            }
            return -1;
        }

        boolean hasLampTwice() {
            for (int i = 0; i < size; i++) {
                if (indexOf(lamps[i], i) >= 0) {
                    return true;
                }
            }
            return false;
        }

        int length() {
            int sum = 0;
            int place = 0;
            for (int i = 0; i < size; i++) {
                sum += stepMinutes(place, lamps[i].place);
                place = lamps[i].place;
            }
            return sum;
        }
    }

    /** Finds shortest orders: for each set of lamps gone to and the last of it, the fewest minutes left. */
    private static final class Planner {
        final int[] minutesLeft = new int[SETS_OF_LAMPS * MOST_LAMPS];
        final Lamp[] order = new Lamp[MOST_LAMPS];

        void prepare(Round round) {
            // Larger sets first: what a set leaves is reckoned from those with one lamp more.
            for (int set = (1 << round.size) - 1; set > 0; set--) {
                for (int last = 0; last < round.size; last++) {
                    if (has(set, last)) {
                        minutesLeft[set * MOST_LAMPS + last] = fewestFrom(round, set, round.lamps[last].place);
                    }
                }
            }
        }

        int fewestFrom(Round round, int set, int place) {
            int best = bestLamp(round, set, place);
            return best < 0 ? 0 : minutesBy(round, set, place, best);
        }

        void reorder(Round round) {
            int set = 0;
            int place = 0;
            for (int i = 0; i < round.size; i++) {
                int best = bestLamp(round, set, place);
                if (best < 0) {
                    return;
                }
                order[i] = round.lamps[best];
                set |= 1 << best;
                place = round.lamps[best].place;
            }
            for (int i = 0; i < round.size; i++) {
                round.lamps[i] = order[i];
            }
        }

        /** The lamp outside a set to go to first for the fewest minutes, by number if equal; -1 if none is. */
        private int bestLamp(Round round, int set, int place) {
            int best = -1;
            int fewest = 0;
            for (int i = 0; i < round.size; i++) {
                if (!has(set, i)) {
                    int minutes = minutesBy(round, set, place, i);
                    boolean isFirst = best < 0 || minutes < fewest
                            || minutes == fewest && round.lamps[i].number < round.lamps[best].number;
                    best = isFirst ? i : best;
                    fewest = isFirst ? minutes : fewest;
                }
            }
            return best;
        }

        private int minutesBy(Round round, int set, int place, int lamp) {
            return stepMinutes(place, round.lamps[lamp].place) + minutesLeft[(set | 1 << lamp) * MOST_LAMPS + lamp];
        }

        private static boolean has(int set, int lamp) {
            return (set >> lamp & 1) == 1;
        }
    }

    private static final class Walk {
        final int[] numbers = new int[MOST_LAMPS];
        int size;
        int position;
        boolean isBegun;
        boolean isPaused;

        void begin(Round round) {
            // A copy, as the walk goes by the round as it is now, whatever becomes of it.
            for (int i = 0; i < round.size; i++) {
                numbers[i] = round.lamps[i].number;
            }
            size = round.size;
            position = 0;
            isBegun = true;
            isPaused = false;
        }
    }

    private static final class Sky {
        final boolean[] cloudy = new boolean[DAYS];
        boolean isFoggy;

        char moonOf(int day) {
            int distance = Math.abs(day % 30 - 15);
            if (cloudy[day] || distance > 4) {
                return 'n';
            }
            return distance <= 1 ? 'f' : 'h';
        }

        boolean wantsLamps(int hour) {
            if (isFoggy) {
                return true;
            }
            int day = hour / HOURS_OF_DAY;
            int hourOfDay = hour % HOURS_OF_DAY;
            int longer = (180 - Math.abs(day % 360 - 180)) / 45;
            boolean isEvening = hourOfDay >= 16 + longer;
            boolean isMorning = hourOfDay < 8 - longer;
            switch (moonOf(day)) {
                case 'f':
                    return false;
                case 'h':
                    return isEvening;
                default:
                    return isEvening || isMorning;
            }
        }
    }
}
