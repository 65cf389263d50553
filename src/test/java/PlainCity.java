import java.util.ArrayDeque;
import java.util.ArrayList;
import java.util.Collections;
import java.util.Deque;
import java.util.HashSet;
import java.util.List;
import java.util.NoSuchElementException;
import java.util.Set;

/** The document once more, told slowly: ModelTest compares the class with it. It shares no code with the class. */
public final class PlainCity {
    private static final class Main {
        int from;
        int length;
        int diameter;
        int rise;
        int years;
        boolean shut;
        boolean frozen;
    }

    private static final class Fixture {
        boolean lamp;
        int node;
        int place;
        int parish;
        boolean lit;
        int worn;
        int minute;
        int dark;
        int demand;
        int hundredths;
        boolean byCoins;
        boolean cut;
        int metered;
        int arrears;
        int coins;
        int hours;
        int gas;
    }

    private final Deque<int[]> coal = new ArrayDeque<>();
    private int retorts;
    private int gas;
    private int mixed;
    private int lime;
    private final long[] accounts = new long[128];
    private final List<Integer> pressures = new ArrayList<>(Collections.nCopies(24, 30));
    private final List<Main> mains = new ArrayList<>();
    private final List<Fixture> fixtures = new ArrayList<>();
    private final List<List<Integer>> rounds = new ArrayList<>();
    private final Set<Integer> ill = new HashSet<>();
    private final Set<Integer> cloudy = new HashSet<>();
    private boolean strike;
    private boolean fog;
    private List<Integer> walked;
    private boolean paused;
    private int now;
    private int wageSum;
    private final int[] earned = new int[4];
    private final int[] fined = new int[4];

    public PlainCity() {
        mains.add(null);
    }

    int nodes() {
        return mains.size();
    }

    int fixtureCount() {
        return fixtures.size();
    }

    int lighters() {
        return rounds.size();
    }

    private static void range(int x, int from, int to) {
        if (x < from || x > to) {
            throw new IllegalArgumentException();
        }
    }

    private static void index(int x, int from, int to) {
        if (x < from || x > to) {
            throw new IndexOutOfBoundsException();
        }
    }

    private Fixture fixture(int number) {
        index(number, 0, fixtures.size() - 1);
        return fixtures.get(number);
    }

    private Fixture service(int number) {
        if (fixture(number).lamp) {
            throw new UnsupportedOperationException();
        }
        return fixture(number);
    }

    private List<Integer> round(int lighter) {
        index(lighter, 0, rounds.size() - 1);
        return rounds.get(lighter);
    }

    private Main main(int number) {
        index(number, 1, mains.size() - 1);
        return mains.get(number);
    }

    private int waiting() {
        return coal.stream().mapToInt(c -> c[1]).sum();
    }

    public int charge(int kind, int tons) {
        range(kind, 0, 3);
        range(tons, 1, 99);
        if (waiting() + tons > 999) {
            throw new IllegalStateException();
        }
        coal.add(new int[] {kind, tons});
        return waiting();
    }

    public int setRetorts(int retorts) {
        range(retorts, 0, 20);
        int was = this.retorts;
        this.retorts = retorts;
        return was;
    }

    public int holder() {
        return gas;
    }

    public int candles() {
        return lime >= 100 ? Math.max(mixed - 5, 0) : mixed;
    }

    public int lime() {
        return lime;
    }

    public int changeLime() {
        int was = lime;
        lime = 0;
        return was;
    }

    public int setPressure(int hour, int pressure) {
        range(hour, 0, 23);
        range(pressure, 1, 60);
        return pressures.set(hour, pressure);
    }

    public int lay(int node, int length, int diameter, int rise) {
        index(node, 0, mains.size() - 1);
        range(length, 1, 99);
        range(diameter, 1, 9);
        range(rise, -50, 50);
        if (mains.size() == 12) {
            throw new IllegalStateException();
        }
        Main main = new Main();
        main.from = node;
        main.length = length;
        main.diameter = diameter;
        main.rise = rise;
        mains.add(main);
        return mains.size() - 1;
    }

    public int setAge(int main, int years) {
        Main told = main(main);
        range(years, 0, 99);
        int was = told.years;
        told.years = years;
        return was;
    }

    public boolean setShut(int main, boolean is) {
        boolean was = main(main).shut;
        main(main).shut = is;
        return was;
    }

    public boolean setFrozen(int main, boolean is) {
        boolean was = main(main).frozen;
        main(main).frozen = is;
        return was;
    }

    private boolean reached(int node) {
        if (node == 0) {
            return true;
        }
        Main main = mains.get(node);
        return !main.shut && !main.frozen && reached(main.from);
    }

    private int leak(int node) {
        return node == 0 || !reached(node) ? 0 : mains.get(node).length * mains.get(node).years / 100;
    }

    private int metered(Fixture f) {
        return f.demand * f.hundredths / 100;
    }

    private int cost(Fixture f) {
        int cost = 0;
        for (int told = metered(f); told > 0; told -= 10) {
            cost++;
        }
        return cost;
    }

    private int asks(Fixture f) {
        if (f.lamp) {
            return f.lit ? 5 : 0;
        }
        if (f.cut) {
            return 0;
        }
        if (f.byCoins && f.coins < cost(f)) {
            return 0;
        }
        return f.demand;
    }

    public int flow(int node) {
        index(node, 0, mains.size() - 1);
        if (!reached(node)) {
            return 0;
        }
        int sum = leak(node);
        for (Fixture f : fixtures) {
            if (f.node == node) {
                sum += asks(f);
            }
        }
        for (int other = 1; other < mains.size(); other++) {
            if (mains.get(other).from == node) {
                sum += flow(other);
            }
        }
        return sum;
    }

    public float pressure(int node) {
        index(node, 0, mains.size() - 1);
        if (node == 0) {
            return pressures.get(now % 24);
        }
        if (!reached(node)) {
            return 0;
        }
        Main main = mains.get(node);
        int flow = flow(node);
        int fifth = 100;
        for (int i = 0; i < 5; i++) {
            fifth *= main.diameter;
        }
        float above = flow * flow * main.length;
        float below = fifth;
        float quotient = above / below;
        float difference = pressure(main.from) - quotient;
        float rise = main.rise;
        float twentieth = rise / 20;
        return difference + twentieth;
    }

    public int addLamp(int node, int place, int parish) {
        index(node, 0, mains.size() - 1);
        range(place, 0, 999);
        range(parish, 0, 3);
        Fixture f = new Fixture();
        f.lamp = true;
        f.node = node;
        f.place = place;
        f.parish = parish;
        f.minute = -1;
        return add(f);
    }

    public int addService(int node, int demand, int hundredths, boolean hasCoins) {
        index(node, 0, mains.size() - 1);
        range(demand, 0, 99);
        range(hundredths, 80, 120);
        Fixture f = new Fixture();
        f.node = node;
        f.demand = demand;
        f.hundredths = hundredths;
        f.byCoins = hasCoins;
        return add(f);
    }

    private int add(Fixture f) {
        if (fixtures.size() == 30) {
            throw new IllegalStateException();
        }
        fixtures.add(f);
        return fixtures.size() - 1;
    }

    public int setDemand(int fixture, int demand) {
        fixture(fixture);
        range(demand, 0, 99);
        Fixture f = service(fixture);
        int was = f.demand;
        f.demand = demand;
        return was;
    }

    public int coins(int fixture, int coins) {
        fixture(fixture);
        range(coins, 1, 99);
        if (!service(fixture).byCoins) {
            throw new UnsupportedOperationException();
        }
        return service(fixture).coins += coins;
    }

    public boolean cutOff(int fixture, boolean is) {
        boolean was = service(fixture).cut;
        service(fixture).cut = is;
        return was;
    }

    public int pay(int fixture) {
        int was = service(fixture).arrears;
        service(fixture).arrears = 0;
        return was;
    }

    public int mend(int fixture) {
        Fixture f = fixture(fixture);
        if (!f.lamp) {
            throw new UnsupportedOperationException();
        }
        int was = f.worn;
        f.worn = 0;
        return was;
    }

    public char state(int fixture) {
        Fixture f = fixture(fixture);
        if (f.lamp) {
            return f.worn == 60 ? 'b' : f.lit ? 'l' : 'o';
        }
        return f.cut ? 'c' : 's';
    }

    public int of(int fixture, char what) {
        Fixture f = fixture(fixture);
        if (what == 'b') {
            return f.hours;
        } else if (what == 'g') {
            return f.gas;
        } else if (what == 'w') {
            return f.worn;
        } else if (what == 'm') {
            return f.minute;
        } else if (what == 'd') {
            return f.dark;
        } else if (what == 't') {
            return f.metered;
        } else if (what == 'a') {
            return f.arrears;
        } else if (what == 'c') {
            return f.coins;
        }
        throw new IllegalArgumentException();
    }

    public int addLighter() {
        if (rounds.size() == 6) {
            throw new IllegalStateException();
        }
        rounds.add(new ArrayList<>());
        return rounds.size() - 1;
    }

    public int assign(int lighter, int fixture) {
        List<Integer> round = round(lighter);
        if (!fixture(fixture).lamp || round.contains(fixture)) {
            throw new UnsupportedOperationException();
        }
        if (round.size() == 6) {
            throw new IllegalStateException();
        }
        round.add(fixture);
        return round.size();
    }

    public int unassign(int lighter) {
        List<Integer> round = round(lighter);
        if (round.isEmpty()) {
            throw new NoSuchElementException();
        }
        return round.remove(round.size() - 1);
    }

    public boolean setIll(int lighter, boolean is) {
        round(lighter);
        return is ? !ill.add(lighter) : ill.remove(lighter);
    }

    public boolean setStrike(boolean is) {
        boolean was = strike;
        strike = is;
        return was;
    }

    public boolean setFog(boolean is) {
        boolean was = fog;
        fog = is;
        return was;
    }

    private int time(List<Integer> order) {
        int sum = 0;
        int at = 0;
        for (int lamp : order) {
            int to = fixtures.get(lamp).place;
            int one = (to > at ? to - at : at - to) / 10 + 1;
            sum += fog ? one + one : one;
            at = to;
        }
        return sum;
    }

    public int go(int lighter, boolean isLighting) {
        List<Integer> round = round(lighter);
        if (strike || ill.contains(lighter)) {
            throw new UnsupportedOperationException();
        }
        int count = 0;
        for (int i = 0; i < round.size(); i++) {
            wageSum++;
            Fixture f = fixtures.get(round.get(i));
            if (f.lit == isLighting) {
                continue;
            }
            if (isLighting && (f.worn == 60 || !reached(f.node) || pressure(f.node) < 5)) {
                continue;
            }
            f.lit = isLighting;
            f.minute = time(round.subList(0, i + 1));
            count++;
        }
        return count;
    }

    public int minutes(int lighter) {
        return time(round(lighter));
    }

    private List<Integer> best(List<Integer> ahead, List<Integer> rest, List<Integer> best) {
        if (rest.isEmpty()) {
            return best == null || time(ahead) < time(best) ? new ArrayList<>(ahead) : best;
        }
        List<Integer> sorted = new ArrayList<>(rest);
        Collections.sort(sorted);
        for (Integer lamp : sorted) {
            List<Integer> less = new ArrayList<>(sorted);
            less.remove(lamp);
            ahead.add(lamp);
            best = best(ahead, less, best);
            ahead.remove(ahead.size() - 1);
        }
        return best;
    }

    public int shortest(int lighter) {
        return time(best(new ArrayList<>(), round(lighter), null));
    }

    public int arrange(int lighter) {
        int before = time(round(lighter));
        rounds.set(lighter, best(new ArrayList<>(), round(lighter), null));
        return before - time(round(lighter));
    }

    public int walk(int lighter) {
        walked = new ArrayList<>(round(lighter));
        paused = false;
        return walked.size();
    }

    public int next() {
        if (walked == null || paused) {
            throw new IllegalStateException();
        }
        if (walked.isEmpty()) {
            throw new NoSuchElementException();
        }
        return walked.remove(0);
    }

    public int pause(boolean is) {
        if (walked == null) {
            throw new IllegalStateException();
        }
        paused = is;
        return walked.size();
    }

    public boolean setCloudy(int day, boolean is) {
        range(day, 0, 199);
        return is ? !cloudy.add(day) : cloudy.remove(day);
    }

    public char moon(int day) {
        range(day, 0, 199);
        int rest = day % 30;
        if (cloudy.contains(day) || rest < 11 || rest > 19) {
            return 'n';
        }
        return rest >= 14 && rest <= 16 ? 'f' : 'h';
    }

    public boolean isDue(int hour) {
        range(hour, 0, 4799);
        int day = hour / 24;
        int rest = day % 360;
        int a = rest <= 180 ? rest : 360 - rest;
        int set = 16 + a / 45;
        int rise = 8 - a / 45;
        boolean evening = hour - 24 * day >= set;
        boolean morning = hour - 24 * day < rise;
        return fog || moon(day) != 'f' && (evening || morning && moon(day) == 'n');
    }

    public int pass(int hours) {
        range(hours, 1, 48);
        if (now + hours > 4799) {
            throw new IllegalStateException();
        }
        for (int end = now + hours; now < end; now++) {
            coke();
            burn();
        }
        return now;
    }

    private void coke() {
        int made = 0;
        int free = retorts;
        while (free > 0 && !coal.isEmpty()) {
            int[] first = coal.peek();
            int tons = Math.min(free, first[1]);
            int came = tons * new int[] {90, 100, 110, 130}[first[0]];
            int worth = new int[] {12, 14, 16, 26}[first[0]];
            mixed = (mixed * gas + worth * came) / (gas + came);
            accounts['v'] += Math.max(0, gas + came - 20000);
            gas = Math.min(20000, gas + came);
            made += came;
            free -= tons;
            first[1] -= tons;
            if (first[1] == 0) {
                coal.remove();
            }
        }
        accounts['m'] += made;
        lime += made / 100;
    }

    private void burn() {
        int leaks = 0;
        float[] at = new float[mains.size()];
        for (int node = 0; node < mains.size(); node++) {
            leaks += leak(node);
            at[node] = pressure(node);
        }
        int[] burns = new int[fixtures.size()];
        int all = 0;
        for (int i = 0; i < burns.length; i++) {
            burns[i] = at[fixtures.get(i).node] >= 5 ? asks(fixtures.get(i)) : 0;
            all += burns[i];
        }
        if (gas < leaks + all) {
            leaks = Math.min(leaks, gas);
            all = 0;
            burns = new int[burns.length];
        }
        gas = gas - leaks - all;
        accounts['l'] += leaks;
        accounts['b'] += all;
        for (int i = 0; i < burns.length; i++) {
            Fixture f = fixtures.get(i);
            f.gas += burns[i];
            f.hours += burns[i] > 0 ? 1 : 0;
            if (f.lamp) {
                lampHour(f, burns[i] > 0, at[f.node] > 40 ? 5 : 1);
            } else if (burns[i] > 0) {
                f.metered += metered(f);
                f.arrears += f.byCoins ? 0 : cost(f);
                f.coins -= f.byCoins ? cost(f) : 0;
            }
        }
    }

    private void lampHour(Fixture f, boolean burnt, int wear) {
        if (burnt) {
            f.worn = Math.min(60, f.worn + wear);
            earned[f.parish] += 2;
        }
        if (!burnt || f.worn == 60) {
            f.lit = false;
        }
        if (!burnt && isDue(now)) {
            f.dark++;
            fined[f.parish]++;
        }
    }

    public int owes(int parish) {
        range(parish, 0, 3);
        return earned[parish] - fined[parish];
    }

    public int fines(int parish) {
        range(parish, 0, 3);
        return fined[parish];
    }

    public int wages() {
        return wageSum;
    }

    public long account(char which) {
        if (which != 'm' && which != 'b' && which != 'l' && which != 'v') {
            throw new IllegalArgumentException();
        }
        return accounts[which];
    }

    public long checksum() {
        long sum = 7;
        for (Fixture f : fixtures) {
            sum = 31 * sum + f.gas;
            sum = 31 * sum + f.worn;
        }
        for (int parish = 0; parish < 4; parish++) {
            sum = 31 * sum + owes(parish);
        }
        sum = 31 * sum + gas;
        return 31 * sum + now;
    }

    private int lamps() {
        int lamps = (int) fixtures.stream().filter(f -> f.lamp).count();
        if (lamps == 0) {
            throw new ArithmeticException();
        }
        return lamps;
    }

    public float litShare() {
        float lamps = lamps();
        return fixtures.stream().filter(f -> f.lit).count() / lamps;
    }

    public double meanHours() {
        double lamps = lamps();
        return fixtures.stream().filter(f -> f.lamp).mapToInt(f -> f.hours).sum() / lamps;
    }

    public boolean isSound() {
        return true;
    }
}
