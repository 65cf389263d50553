/** Promises 9 to 14: mains, their leaks, flows and pressures. */
public final class MainsTest {
    private static final Check check = new Check("MainsTest");

    public static void main(String[] args) {
        laying();
        ages();
        shutting();
        flows();
        flowsBehindShutMains();
        pressures();
        pressuresOfHills();
        check.end();
    }

    private static void laying() {
        Lampwick x = new Lampwick();
        check.same("9 lay", 1, () -> x.lay(0, 1, 1, -50));
        check.same("9 lay on", 2, () -> x.lay(1, 99, 9, 50));
        int[][] wrong = {{0, 0, 1, 0}, {0, 100, 1, 0}, {0, 1, 0, 0}, {0, 1, 10, 0}, {0, 1, 1, -51}, {0, 1, 1, 51},
            {0, Integer.MIN_VALUE, 1, 0}, {0, 1, Integer.MAX_VALUE, 0}, {0, 1, 1, Integer.MIN_VALUE}};
        for (int[] w : wrong) {
            check.refuses("9 " + w[1] + " " + w[2] + " " + w[3], IllegalArgumentException.class,
                    () -> x.lay(w[0], w[1], w[2], w[3]));
        }
        for (int node : new int[] {-1, 3, 12, Integer.MIN_VALUE, Integer.MAX_VALUE}) {
            check.refuses("9 from " + node, IndexOutOfBoundsException.class, () -> x.lay(node, 0, 1, 0));
        }
        for (int i = 3; i < 12; i++) {
            int due = i;
            check.same("9 node " + i, due, () -> x.lay(0, 5, 5, 0));
        }
        check.refuses("9 a 13th", IllegalStateException.class, () -> x.lay(11, 5, 5, 0));
        check.refuses("9 range ahead of number", IllegalArgumentException.class, () -> x.lay(11, 5, 10, 0));
        check.refuses("9 node ahead of both", IndexOutOfBoundsException.class, () -> x.lay(12, 5, 10, 0));
    }

    private static void ages() {
        Lampwick x = new Lampwick();
        x.lay(0, 33, 1, 0);
        check.same("10 first age", 0, () -> x.setAge(1, 99));
        check.same("10 leak, cut", 33 * 99 / 100, () -> x.flow(1));
        check.same("10 before", 99, () -> x.setAge(1, 3));
        check.same("10 a small leak is none", 0, () -> x.flow(1));
        check.same("10 age 4", 3, () -> x.setAge(1, 4));
        check.same("10 one", 1, () -> x.flow(1));
        for (int main : new int[] {0, -1, 2, Integer.MAX_VALUE, Integer.MIN_VALUE}) {
            check.refuses("10 main " + main, IndexOutOfBoundsException.class, () -> x.setAge(main, 100));
        }
        check.refuses("10 100 years", IllegalArgumentException.class, () -> x.setAge(1, 100));
        check.refuses("10 -1 years", IllegalArgumentException.class, () -> x.setAge(1, -1));
        check.same("10 unchanged", 4, () -> x.setAge(1, 0));
    }

    private static void shutting() {
        Lampwick x = new Lampwick();
        x.lay(0, 10, 1, 0);
        check.same("11 open at first", false, () -> x.setShut(1, true));
        check.same("11 shut", true, () -> x.setShut(1, true));
        check.same("12 not frozen at first", false, () -> x.setFrozen(1, true));
        check.same("11 shut still", true, () -> x.setShut(1, false));
        check.same("12 pressure of a frozen one", 0f, () -> x.pressure(1));
        check.same("12 frozen", true, () -> x.setFrozen(1, false));
        check.same("12 pressure of an open one", 30f, () -> x.pressure(1));
        check.same("11 open", false, () -> x.setShut(1, false));
        check.same("12 thawed", false, () -> x.setFrozen(1, false));
        for (int main : new int[] {0, -1, 2, 12, Integer.MAX_VALUE, Integer.MIN_VALUE}) {
            check.refuses("11 main " + main, IndexOutOfBoundsException.class, () -> x.setShut(main, true));
            check.refuses("12 main " + main, IndexOutOfBoundsException.class, () -> x.setFrozen(main, true));
        }
    }

    /** Works - 1 - 2, and 1 - 3. */
    private static Lampwick tree() {
        Lampwick x = new Lampwick();
        x.lay(0, 50, 3, 0);
        x.lay(1, 50, 2, 0);
        x.lay(1, 50, 4, 0);
        x.setAge(1, 20);
        x.setAge(2, 40);
        x.setAge(3, 60);
        x.addService(0, 1, 100, false);
        x.addService(1, 2, 100, false);
        x.addService(2, 4, 100, false);
        x.addService(3, 8, 100, false);
        return x;
    }

    private static void flows() {
        Lampwick x = tree();
        check.same("13 main 3", 30 + 8, () -> x.flow(3));
        check.same("13 main 2", 20 + 4, () -> x.flow(2));
        check.same("13 main 1", 10 + 2 + 24 + 38, () -> x.flow(1));
        check.same("13 works", 1 + 74, () -> x.flow(0));
        int lamp = x.addLamp(2, 0, 0);
        check.same("13 a lamp that is out", 24, () -> x.flow(2));
        x.addLighter();
        x.assign(0, lamp);
        x.go(0, true);
        check.same("13 a lit one asks for 5", 29, () -> x.flow(2));
        check.same("13 and at the works", 80, () -> x.flow(0));
        x.cutOff(2, true);
        check.same("13 cut off", 25, () -> x.flow(2));
        int service = x.addService(2, 50, 90, true);
        check.same("13 without coins", 25, () -> x.flow(2));
        x.coins(service, 4);
        check.same("13 too few coins", 25, () -> x.flow(2));
        x.coins(service, 1);
        check.same("13 coins enough", 75, () -> x.flow(2));
        x.setDemand(service, 51);
        check.same("13 45 metered still", 76, () -> x.flow(2));
        x.setDemand(service, 56);
        check.same("13 50 metered still cost 5", 81, () -> x.flow(2));
        x.setDemand(service, 57);
        check.same("13 51 metered cost 6", 25, () -> x.flow(2));
        for (int node : new int[] {-1, 4, 12, Integer.MAX_VALUE, Integer.MIN_VALUE}) {
            check.refuses("13 node " + node, IndexOutOfBoundsException.class, () -> x.flow(node));
            check.refuses("14 node " + node, IndexOutOfBoundsException.class, () -> x.pressure(node));
        }
    }

    private static void flowsBehindShutMains() {
        for (boolean isShut : new boolean[] {true, false}) {
            Lampwick x = tree();
            boolean was = isShut ? x.setShut(2, true) : x.setFrozen(2, true);
            check.judge("11 was open", false, was);
            check.same("13 shut 2", 0, () -> x.flow(2));
            check.same("13 without 2", 10 + 2 + 38, () -> x.flow(1));
            check.same("14 shut 2", 0f, () -> x.pressure(2));
            was = isShut ? x.setShut(1, true) : x.setFrozen(1, true);
            for (int i = 1; i < 4; i++) {
                int node = i;
                check.same("13 behind 1 at " + i, 0, () -> x.flow(node));
                check.same("14 behind 1 at " + i, 0f, () -> x.pressure(node));
            }
            check.same("13 the works alone", 1, () -> x.flow(0));
            x.setRetorts(1);
            x.charge(1, 1);
            x.pass(1);
            check.same("11 nothing behind leaks", 0L, () -> x.account('l'));
            check.same("11 nothing behind burns", 1L, () -> x.account('b'));
        }
    }

    private static void pressures() {
        Lampwick x = tree();
        float one = 30f - (float) (74 * 74 * 50) / (float) (100 * 243);
        float two = one - (float) (24 * 24 * 50) / (float) (100 * 32);
        float three = one - (float) (38 * 38 * 50) / (float) (100 * 1024);
        check.same("14 works", 30f, () -> x.pressure(0));
        check.same("14 node 1", one, () -> x.pressure(1));
        check.same("14 node 2", two, () -> x.pressure(2));
        check.same("14 node 3", three, () -> x.pressure(3));
        x.setPressure(0, 12);
        check.same("14 by the hour of now", 12f - (float) (74 * 74 * 50) / 24300f, () -> x.pressure(1));
        x.setDemand(3, 99);
        check.same("14 below 0 in the end", true, () -> x.pressure(2) < 0f && x.pressure(1) < 0f);
        Lampwick wide = new Lampwick();
        wide.lay(0, 99, 1, 0);
        for (int i = 0; i < 30; i++) {
            wide.addService(1, 99, 100, false);
        }
        check.same("14 the dearest loss", 30f - (float) (2970L * 2970L * 99L) / 100f, () -> wide.pressure(1));
    }

    private static void pressuresOfHills() {
        Lampwick x = new Lampwick();
        x.lay(0, 7, 3, 13);
        x.lay(1, 11, 2, -49);
        x.addService(2, 17, 100, false);
        float one = 30f - (float) (17 * 17 * 7) / (float) (100 * 243);
        one = one + (float) 13 / 20f;
        float two = one - (float) (17 * 17 * 11) / (float) (100 * 32);
        float end = two + (float) -49 / 20f;
        check.judge("14 uphill", one, x.pressure(1));
        check.judge("14 downhill", end, x.pressure(2));
    }
}
