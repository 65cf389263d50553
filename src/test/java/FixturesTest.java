/** Promises 15 to 23, 45 to 47: lamps and services, and what they tell. */
public final class FixturesTest {
    private static final Check check = new Check("FixturesTest");
    private static final int[] NO_FIXTURES = {-1, 2, 30, Integer.MAX_VALUE, Integer.MIN_VALUE};

    public static void main(String[] args) {
        adding();
        addingTooMany();
        demands();
        coins();
        cuttingOff();
        paying();
        mending();
        telling();
        shares();
        checksums();
        check.end();
    }

    private static void adding() {
        Lampwick x = new Lampwick();
        check.same("15 addLamp", 0, () -> x.addLamp(0, 0, 0));
        check.same("16 addService", 1, () -> x.addService(0, 0, 80, true));
        check.same("15 in one row", 2, () -> x.addLamp(0, 999, 3));
        check.same("16 in one row", 3, () -> x.addService(0, 99, 120, false));
        int[][] lamps = {{-1, 0}, {1000, 0}, {0, -1}, {0, 4}, {Integer.MIN_VALUE, 0}, {0, Integer.MAX_VALUE}};
        for (int[] w : lamps) {
            check.refuses("15 " + w[0] + " " + w[1], IllegalArgumentException.class, () -> x.addLamp(0, w[0], w[1]));
        }
        int[][] services = {{-1, 100}, {100, 100}, {0, 79}, {0, 121}, {Integer.MAX_VALUE, 100}, {0, Integer.MIN_VALUE}};
        for (int[] w : services) {
            check.refuses("16 " + w[0] + " " + w[1], IllegalArgumentException.class,
                    () -> x.addService(0, w[0], w[1], true));
        }
        for (int node : new int[] {-1, 1, 12, Integer.MAX_VALUE}) {
            check.refuses("15 node " + node, IndexOutOfBoundsException.class, () -> x.addLamp(node, -1, 0));
            check.refuses("16 node " + node, IndexOutOfBoundsException.class, () -> x.addService(node, -1, 0, true));
        }
        check.same("15 out at first", 'o', () -> x.state(0));
        check.same("15 whole at first", 0, () -> x.of(0, 'w'));
        check.same("16 no coins at first", 0, () -> x.of(1, 'c'));
        check.same("16 asks", 99, () -> x.flow(0));
    }

    private static void addingTooMany() {
        Lampwick x = new Lampwick();
        for (int i = 0; i < 30; i++) {
            int due = i;
            check.same("15 number " + i, due, () -> due % 2 == 0 ? x.addLamp(0, due, 1) : x.addService(0, 1, 100, false));
        }
        check.refuses("15 a 31st", IllegalStateException.class, () -> x.addLamp(0, 0, 0));
        check.refuses("16 a 31st", IllegalStateException.class, () -> x.addService(0, 1, 100, true));
        check.refuses("15 range first", IllegalArgumentException.class, () -> x.addLamp(0, 0, 4));
        check.refuses("16 range first", IllegalArgumentException.class, () -> x.addService(0, 1, 79, true));
        check.refuses("15 node first", IndexOutOfBoundsException.class, () -> x.addLamp(1, 0, 4));
        check.refuses("16 node first", IndexOutOfBoundsException.class, () -> x.addService(1, 1, 79, true));
        check.refuses("15 none was added", IndexOutOfBoundsException.class, () -> x.state(30));
        check.same("46 of 15 lamps", 0f, () -> x.litShare());
        check.same("47 of 15 lamps", 0.0, () -> x.meanHours());
        check.same("13 of 15 services", 15, () -> x.flow(0));
        x.setRetorts(1);
        x.charge(1, 1);
        check.same("40 with 30 fixtures", 1, () -> x.pass(1));
        check.same("4 with 30 fixtures", 85, () -> x.holder());
        check.same("48 with 30 fixtures", true, () -> x.isSound());
    }

    /** Fixture 0 a lamp, 1 a service without coins. */
    private static Lampwick pair() {
        Lampwick x = new Lampwick();
        x.addLamp(0, 10, 2);
        x.addService(0, 20, 100, false);
        return x;
    }

    private static void demands() {
        Lampwick x = pair();
        check.same("17 before", 20, () -> x.setDemand(1, 99));
        check.same("17 asks now", 99, () -> x.flow(0));
        check.same("17 before again", 99, () -> x.setDemand(1, 0));
        for (int fixture : NO_FIXTURES) {
            check.refuses("17 fixture " + fixture, IndexOutOfBoundsException.class, () -> x.setDemand(fixture, 100));
        }
        for (int demand : new int[] {-1, 100, Integer.MAX_VALUE, Integer.MIN_VALUE}) {
            check.refuses("17 demand " + demand, IllegalArgumentException.class, () -> x.setDemand(1, demand));
            check.refuses("17 lamp, demand " + demand, IllegalArgumentException.class, () -> x.setDemand(0, demand));
        }
        check.refuses("17 a lamp", UnsupportedOperationException.class, () -> x.setDemand(0, 5));
        check.same("17 unchanged", 0, () -> x.setDemand(1, 1));
    }

    private static void coins() {
        Lampwick x = pair();
        x.addService(0, 20, 100, true);
        check.same("18 coins", 1, () -> x.coins(2, 1));
        check.same("18 more", 100, () -> x.coins(2, 99));
        check.same("18 told", 100, () -> x.of(2, 'c'));
        for (int fixture : new int[] {-1, 3, 30, Integer.MAX_VALUE}) {
            check.refuses("18 fixture " + fixture, IndexOutOfBoundsException.class, () -> x.coins(fixture, 0));
        }
        for (int coins : new int[] {0, 100, -1, Integer.MAX_VALUE, Integer.MIN_VALUE}) {
            check.refuses("18 coins " + coins, IllegalArgumentException.class, () -> x.coins(2, coins));
            check.refuses("18 a lamp, coins " + coins, IllegalArgumentException.class, () -> x.coins(0, coins));
        }
        check.refuses("18 a lamp", UnsupportedOperationException.class, () -> x.coins(0, 1));
        check.refuses("18 without coins", UnsupportedOperationException.class, () -> x.coins(1, 1));
        check.same("18 unchanged", 100, () -> x.of(2, 'c'));
        check.same("18 a lamp has none", 0, () -> x.of(0, 'c'));
    }

    private static void cuttingOff() {
        Lampwick x = pair();
        check.same("22 joined", 's', () -> x.state(1));
        check.same("19 was not", false, () -> x.cutOff(1, true));
        check.same("22 cut off", 'c', () -> x.state(1));
        check.same("19 asks for nothing", 0, () -> x.flow(0));
        check.same("19 was", true, () -> x.cutOff(1, true));
        check.same("19 joins", true, () -> x.cutOff(1, false));
        check.same("19 asks again", 20, () -> x.flow(0));
        check.same("19 was joined", false, () -> x.cutOff(1, false));
        check.refuses("19 a lamp", UnsupportedOperationException.class, () -> x.cutOff(0, true));
        for (int fixture : NO_FIXTURES) {
            check.refuses("19 fixture " + fixture, IndexOutOfBoundsException.class, () -> x.cutOff(fixture, true));
            check.refuses("20 fixture " + fixture, IndexOutOfBoundsException.class, () -> x.pay(fixture));
            check.refuses("21 fixture " + fixture, IndexOutOfBoundsException.class, () -> x.mend(fixture));
            check.refuses("22 fixture " + fixture, IndexOutOfBoundsException.class, () -> x.state(fixture));
            check.refuses("23 fixture " + fixture, IndexOutOfBoundsException.class, () -> x.of(fixture, 'x'));
        }
    }

    private static void paying() {
        Lampwick x = pair();
        check.same("20 nothing yet", 0, () -> x.pay(1));
        x.setRetorts(20);
        x.charge(1, 20);
        x.setDemand(1, 21);
        x.pass(2);
        check.same("23 arrears", 6, () -> x.of(1, 'a'));
        check.same("20 pay", 6, () -> x.pay(1));
        check.same("20 paid", 0, () -> x.pay(1));
        check.same("23 none left", 0, () -> x.of(1, 'a'));
        check.refuses("20 a lamp", UnsupportedOperationException.class, () -> x.pay(0));
        x.addService(0, 10, 100, true);
        x.coins(2, 5);
        x.pass(1);
        check.same("20 one by coins owes nothing", 0, () -> x.pay(2));
        check.same("23 but has fewer coins", 4, () -> x.of(2, 'c'));
    }

    private static void mending() {
        Lampwick x = pair();
        x.setRetorts(20);
        x.charge(1, 20);
        x.addLighter();
        x.assign(0, 0);
        check.same("21 a new mantle", 0, () -> x.mend(0));
        x.go(0, true);
        x.pass(3);
        check.same("21 worn", 3, () -> x.mend(0));
        check.same("23 new", 0, () -> x.of(0, 'w'));
        check.same("21 stays lit", 'l', () -> x.state(0));
        check.refuses("21 a service", UnsupportedOperationException.class, () -> x.mend(1));
    }

    private static void telling() {
        Lampwick x = pair();
        x.addService(0, 9, 120, true);
        x.coins(2, 3);
        x.setRetorts(20);
        x.charge(1, 20);
        x.addLighter();
        x.assign(0, 0);
        check.same("23 minute never", -1, () -> x.of(0, 'm'));
        x.go(0, true);
        x.pass(2);
        int[] lamp = {2, 10, 2, 2, 0, 0, 0, 0};
        int[] service = {2, 40, 0, 0, 0, 40, 4, 0};
        int[] coins = {1, 9, 0, 0, 0, 10, 0, 2};
        String things = "bgwmdtac";
        x.cutOff(2, false);
        x.setDemand(2, 0);
        x.setDemand(2, 9);
        for (int i = 0; i < things.length(); i++) {
            char what = things.charAt(i);
            check.judge("23 lamp " + what, lamp[i], x.of(0, what));
            check.judge("23 service " + what, service[i], x.of(1, what));
            check.judge("23 by coins " + what, what == 'c' ? 1 : 2 * coins[i], x.of(2, what));
        }
        for (char what : new char[] {'x', 'B', ' ', 0, 255, 65535, 's'}) {
            check.refuses("23 of " + (int) what, IllegalArgumentException.class, () -> x.of(0, what));
            check.refuses("23 of " + (int) what, IllegalArgumentException.class, () -> x.of(1, what));
        }
    }

    private static void shares() {
        Lampwick x = new Lampwick();
        check.refuses("46 no lamps", ArithmeticException.class, () -> x.litShare());
        check.refuses("47 no lamps", ArithmeticException.class, () -> x.meanHours());
        x.addService(0, 1, 100, false);
        check.refuses("46 services are none", ArithmeticException.class, () -> x.litShare());
        check.refuses("47 services are none", ArithmeticException.class, () -> x.meanHours());
        x.addLamp(0, 0, 0);
        x.addLamp(0, 1, 0);
        x.addLamp(0, 2, 0);
        check.same("46 none lit", 0f, () -> x.litShare());
        check.same("47 none burnt", 0.0, () -> x.meanHours());
        x.addLighter();
        x.assign(0, 1);
        x.go(0, true);
        check.same("46 a third", 1f / 3f, () -> x.litShare());
        x.setRetorts(1);
        x.charge(1, 9);
        x.pass(1);
        x.assign(0, 3);
        x.go(0, true);
        check.same("46 two thirds", 2f / 3f, () -> x.litShare());
        x.pass(3);
        check.same("47 seven thirds", 7.0 / 3.0, () -> x.meanHours());
        Lampwick y = pair();
        y.addLighter();
        y.assign(0, 0);
        y.go(0, true);
        y.setRetorts(1);
        y.charge(1, 9);
        y.pass(5);
        check.same("47 the first lamp counts", 5.0, () -> y.meanHours());
        check.same("46 the first lamp counts", 1f, () -> y.litShare());
    }

    private static void checksums() {
        Lampwick x = pair();
        x.addLamp(0, 5, 0);
        x.setRetorts(1);
        x.charge(1, 9);
        x.addLighter();
        x.assign(0, 0);
        x.go(0, true);
        x.pass(3);
        long[] parts = {15, 3, 60, 0, 0, 0, -3, 0, 6, 0, 300 - 75, 3};
        long sum = 7;
        for (long part : parts) {
            sum = 31 * sum + part;
        }
        long due = sum;
        check.same("45 checksum", due, () -> x.checksum());
    }
}
