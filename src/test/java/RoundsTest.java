import java.util.NoSuchElementException;

/** Promises 24 to 36 and 43: lighters, their rounds, wages, and the walk. */
public final class RoundsTest {
    private static final Check check = new Check("RoundsTest");
    private static final int[] NO_LIGHTERS = {-1, 1, 6, Integer.MAX_VALUE, Integer.MIN_VALUE};

    public static void main(String[] args) {
        lighters();
        assigning();
        unassigning();
        refusals();
        going();
        goingInFog();
        goingByPressure();
        goingByMantlesAndMains();
        goingByTheHour();
        minutes();
        arranging();
        arrangingAnew();
        arrangingEquals();
        allOrders();
        walking();
        walkingOn();
        check.end();
    }

    private static Lampwick city(int... places) {
        Lampwick x = new Lampwick();
        x.addLighter();
        for (int i = 0; i < places.length; i++) {
            x.addLamp(0, places[i], i % 4);
            x.assign(0, i);
        }
        return x;
    }

    private static void lighters() {
        Lampwick x = new Lampwick();
        for (int i = 0; i < 6; i++) {
            int due = i;
            check.same("24 lighter " + i, due, () -> x.addLighter());
        }
        check.refuses("24 a 7th", IllegalStateException.class, () -> x.addLighter());
        check.same("24 empty round", 0, () -> x.minutes(5));
        check.same("24 empty round", 0, () -> x.walk(5));
        check.same("24 and not ill", 0, () -> x.go(5, true));
        check.refuses("24 none was added", IndexOutOfBoundsException.class, () -> x.minutes(6));
    }

    private static void assigning() {
        Lampwick x = new Lampwick();
        x.addLighter();
        for (int i = 0; i < 7; i++) {
            x.addLamp(0, 10 * i, 0);
        }
        x.addService(0, 1, 100, false);
        check.refuses("25 a service", UnsupportedOperationException.class, () -> x.assign(0, 7));
        for (int i = 0; i < 6; i++) {
            int lamp = 5 - i;
            int due = i + 1;
            check.same("25 lamp " + lamp, due, () -> x.assign(0, lamp));
        }
        check.refuses("25 a 7th", IllegalStateException.class, () -> x.assign(0, 6));
        check.refuses("25 a lamp in it, listed first", UnsupportedOperationException.class, () -> x.assign(0, 0));
        check.refuses("25 a service, listed first", UnsupportedOperationException.class, () -> x.assign(0, 7));
        for (int fixture : new int[] {-1, 8, 30, Integer.MAX_VALUE}) {
            check.refuses("25 fixture " + fixture, IndexOutOfBoundsException.class, () -> x.assign(0, fixture));
        }
        for (int lighter : NO_LIGHTERS) {
            check.refuses("25 lighter " + lighter, IndexOutOfBoundsException.class, () -> x.assign(lighter, 7));
        }
        x.addLighter();
        check.same("25 in another round too", 1, () -> x.assign(1, 0));
        check.refuses("25 twice", UnsupportedOperationException.class, () -> x.assign(1, 0));
        check.same("48 sound", true, () -> x.isSound());
    }

    private static void unassigning() {
        Lampwick x = city(10, 20, 30);
        check.same("26 the last", 2, () -> x.unassign(0));
        check.same("26 and again at the end", 3, () -> x.assign(0, 2));
        check.same("26 the last", 2, () -> x.unassign(0));
        check.same("26 the one ahead", 1, () -> x.unassign(0));
        check.same("26 the first", 0, () -> x.unassign(0));
        check.refuses("26 none left", NoSuchElementException.class, () -> x.unassign(0));
        check.same("26 none walked to", 0, () -> x.minutes(0));
        check.same("26 assigned anew", 1, () -> x.assign(0, 0));
        for (int lighter : NO_LIGHTERS) {
            check.refuses("26 lighter " + lighter, IndexOutOfBoundsException.class, () -> x.unassign(lighter));
            check.refuses("27 lighter " + lighter, IndexOutOfBoundsException.class, () -> x.setIll(lighter, true));
            check.refuses("30 lighter " + lighter, IndexOutOfBoundsException.class, () -> x.go(lighter, true));
            check.refuses("31 lighter " + lighter, IndexOutOfBoundsException.class, () -> x.minutes(lighter));
            check.refuses("32 lighter " + lighter, IndexOutOfBoundsException.class, () -> x.shortest(lighter));
            check.refuses("33 lighter " + lighter, IndexOutOfBoundsException.class, () -> x.arrange(lighter));
            check.refuses("34 lighter " + lighter, IndexOutOfBoundsException.class, () -> x.walk(lighter));
        }
    }

    private static void refusals() {
        Lampwick x = city(10);
        check.same("27 well", false, () -> x.setIll(0, true));
        check.same("27 ill", true, () -> x.setIll(0, true));
        check.refuses("30 ill", UnsupportedOperationException.class, () -> x.go(0, true));
        check.refuses("30 ill, out", UnsupportedOperationException.class, () -> x.go(0, false));
        check.same("27 well again", true, () -> x.setIll(0, false));
        check.same("28 no strike", false, () -> x.setStrike(true));
        check.same("28 strike", true, () -> x.setStrike(true));
        check.refuses("30 strike", UnsupportedOperationException.class, () -> x.go(0, true));
        check.refuses("30 no lighter, listed first", IndexOutOfBoundsException.class, () -> x.go(1, true));
        check.same("43 no wage for it", 0, () -> x.wages());
        check.same("30 nothing lit", 'o', () -> x.state(0));
        check.same("28 over", true, () -> x.setStrike(false));
        check.same("28 is over", false, () -> x.setStrike(false));
        check.same("30 lit", 1, () -> x.go(0, true));
        check.same("29 clear", false, () -> x.setFog(true));
        check.same("29 fog", true, () -> x.setFog(false));
        check.same("29 clear again", false, () -> x.setFog(false));
        x.addLighter();
        x.setIll(0, true);
        check.same("27 each for himself", 0, () -> x.go(1, true));
    }

    private static void going() {
        Lampwick x = city(19, 5, 205);
        check.same("30 lights all", 3, () -> x.go(0, true));
        check.same("23 minute of the first", 2, () -> x.of(0, 'm'));
        check.same("23 minute of the second", 2 + 2, () -> x.of(1, 'm'));
        check.same("23 minute of the third", 4 + 21, () -> x.of(2, 'm'));
        check.same("43 wages", 3, () -> x.wages());
        check.same("30 lit already", 0, () -> x.go(0, true));
        check.same("43 wages for those too", 6, () -> x.wages());
        x.unassign(0);
        check.same("30 puts two out", 2, () -> x.go(0, false));
        check.same("30 out", 'o', () -> x.state(1));
        check.same("30 not in the round", 'l', () -> x.state(2));
        check.same("30 none to put out", 0, () -> x.go(0, false));
        check.same("43 wages", 10, () -> x.wages());
        x.assign(0, 2);
        x.unassign(0);
        x.unassign(0);
        x.assign(0, 2);
        check.same("30 one of two", 1, () -> x.go(0, true));
        check.same("23 not changed, no new minute", 25, () -> x.of(2, 'm'));
        check.same("23 lit again", 2, () -> x.of(0, 'm'));
    }

    private static void goingInFog() {
        Lampwick x = city(999, 0, 999);
        x.setFog(true);
        check.same("31 fog", 2 * (100 + 100 + 100), () -> x.minutes(0));
        check.same("30 fog", 3, () -> x.go(0, true));
        check.same("23 fog", 200, () -> x.of(0, 'm'));
        check.same("23 beyond the hour", 600, () -> x.of(2, 'm'));
        check.same("32 fog", 2 * (1 + 100 + 1), () -> x.shortest(0));
        check.same("33 fog", 600 - 204, () -> x.arrange(0));
    }

    /** Each lamp that is lit draws 5: with a main of 99 and 1 across that takes 24.75 of the pressure. */
    private static void goingByPressure() {
        Lampwick x = new Lampwick();
        x.lay(0, 99, 1, 0);
        x.addLighter();
        for (int i = 0; i < 3; i++) {
            x.addLamp(1, 0, 0);
            x.assign(0, i);
        }
        check.same("30 the second has 5.25, the third too little", 2, () -> x.go(0, true));
        check.same("30 second", 'l', () -> x.state(1));
        check.same("30 third", 'o', () -> x.state(2));
        check.same("23 third never", -1, () -> x.of(2, 'm'));
        check.same("43 walked to", 3, () -> x.wages());
        check.same("14 then", 30f - 99f, () -> x.pressure(1));
        check.same("30 put out at any pressure", 2, () -> x.go(0, false));
        Lampwick y = new Lampwick();
        y.addLamp(0, 0, 0);
        y.addLighter();
        y.assign(0, 0);
        y.setPressure(0, 4);
        check.same("30 below 5", 0, () -> y.go(0, true));
        y.setPressure(0, 5);
        check.same("30 at 5", 1, () -> y.go(0, true));
    }

    private static void goingByMantlesAndMains() {
        Lampwick x = new Lampwick();
        x.lay(0, 1, 9, 0);
        x.lay(1, 1, 9, 0);
        x.addLamp(2, 100, 0);
        x.addLamp(0, 200, 0);
        x.addLighter();
        x.assign(0, 0);
        x.assign(0, 1);
        x.setFrozen(1, true);
        check.same("30 frozen", 1, () -> x.go(0, true));
        check.same("30 walked to", 22, () -> x.of(1, 'm'));
        check.same("30 not lit", 'o', () -> x.state(0));
        x.setFrozen(1, false);
        x.setShut(2, true);
        check.same("30 shut", 0, () -> x.go(0, true));
        x.setShut(2, false);
        check.same("30 open", 1, () -> x.go(0, true));
        x.setShut(1, true);
        check.same("22 lit until the hour is over", 'l', () -> x.state(0));
        check.same("30 puts out behind a shut main", 2, () -> x.go(0, false));
        x.setShut(1, false);
        x.go(0, true);
        for (int hour = 0; hour < 24; hour++) {
            x.setPressure(hour, 60);
        }
        x.setRetorts(20);
        x.charge(1, 99);
        x.pass(12);
        check.same("22 broken", 'b', () -> x.state(0));
        check.same("30 broken ones are not lit", 0, () -> x.go(0, true));
        x.mend(1);
        check.same("22 mended, out", 'o', () -> x.state(1));
        check.same("30 the holder does not matter", 1, () -> x.go(0, true));
    }

    private static void goingByTheHour() {
        Lampwick x = city(0);
        x.setPressure(1, 4);
        x.pass(1);
        check.same("30 by the pressure of the hour", 0, () -> x.go(0, true));
        x.pass(1);
        check.same("30 an hour on", 1, () -> x.go(0, true));
    }

    private static void minutes() {
        check.same("31 none", 0, () -> city().minutes(0));
        check.same("31 at 0", 1, () -> city(0).minutes(0));
        check.same("31 cut", 1, () -> city(9).minutes(0));
        check.same("31 ten", 2, () -> city(10).minutes(0));
        check.same("31 back and forth", 10 + 9 + 99, () -> city(99, 10, 999).minutes(0));
        check.same("32 none", 0, () -> city().shortest(0));
        check.same("33 none", 0, () -> city().arrange(0));
        check.same("32 one", 100, () -> city(999).shortest(0));
    }

    private static void arranging() {
        Lampwick x = city(500, 100, 300);
        check.same("31 before", 51 + 41 + 21, () -> x.minutes(0));
        check.same("32 shortest", 11 + 21 + 21, () -> x.shortest(0));
        check.same("32 changes nothing", 113, () -> x.minutes(0));
        check.same("33 won", 60, () -> x.arrange(0));
        check.same("33 nothing more", 0, () -> x.arrange(0));
        check.same("31 then", 53, () -> x.minutes(0));
        x.walk(0);
        int[] due = {1, 2, 0};
        for (int lamp : due) {
            check.same("33 order", lamp, () -> x.next());
        }
        check.same("26 last", 0, () -> x.unassign(0));
    }

    /** What was reckoned for one round says nothing of another one, be it longer or changed since. */
    private static void arrangingAnew() {
        Lampwick x = city(900, 500, 100);
        x.addLighter();
        x.addLamp(0, 60, 0);
        x.assign(1, 0);
        x.assign(1, 3);
        check.same("32 of three", 11 + 41 + 41, () -> x.shortest(0));
        check.same("32 of two", 7 + 85, () -> x.shortest(1));
        check.same("33 of two", 91 + 85 - 92, () -> x.arrange(1));
        check.same("33 of three", 91 + 41 + 41 - 93, () -> x.arrange(0));
        x.unassign(0);
        check.same("32 of the two left", 11 + 41, () -> x.shortest(0));
        Lampwick y = city(900, 500, 100);
        check.same("33 first of all", 91 + 41 + 41 - 93, () -> y.arrange(0));
        check.same("31 then", 93, () -> y.minutes(0));
        // The lowest of the nearest lamps, 0, is not the first of the shortest order.
        Lampwick z = city(9, 0, 18);
        check.same("33 the nearest is not enough", 1, () -> z.arrange(0));
        z.walk(0);
        check.same("33 then 1", 1, () -> z.next());
        check.same("33 then 0", 0, () -> z.next());
        check.same("33 then 2", 2, () -> z.next());
    }

    /** Of orders that are equally short it is that with the lowest numbers, even if nothing is won. */
    private static void arrangingEquals() {
        Lampwick x = new Lampwick();
        x.addLighter();
        for (int place : new int[] {9, 5, 0, 7}) {
            x.addLamp(0, place, 0);
        }
        for (int lamp : new int[] {3, 1, 2, 0}) {
            x.assign(0, lamp);
        }
        check.same("33 nothing won", 0, () -> x.arrange(0));
        x.walk(0);
        for (int i = 0; i < 4; i++) {
            int due = i;
            check.same("33 by numbers", due, () -> x.next());
        }
    }

    /** All orders tried one by one, against shortest and arrange, for many rounds. */
    private static void allOrders() {
        int seed = 12345;
        for (int run = 0; run < 300; run++) {
            int size = 1 + run % 6;
            int spread = run % 3 == 0 ? 1000 : run % 3 == 1 ? 60 : 25;
            int[] places = new int[8];
            Lampwick x = new Lampwick();
            x.addLighter();
            for (int i = 0; i < places.length; i++) {
                seed = seed * 1103515245 + 12345;
                places[i] = (seed >>> 8) % spread;
                x.addLamp(0, places[i], 0);
            }
            int[] round = new int[size];
            for (int i = 0; i < size; i++) {
                round[i] = (run + (i * 5)) % 8;
                x.assign(0, round[i]);
            }
            int before = length(round, places);
            int[] best = new Orders(round, places).best;
            check.judge("31 run " + run, before, x.minutes(0));
            check.judge("32 run " + run, length(best, places), x.shortest(0));
            check.judge("33 run " + run, before - length(best, places), x.arrange(0));
            x.walk(0);
            for (int lamp : best) {
                check.judge("33 order of run " + run, lamp, x.next());
            }
        }
    }

    private static int length(int[] order, int[] places) {
        int sum = 0;
        int at = 0;
        for (int lamp : order) {
            sum += Math.abs(at - places[lamp]) / 10 + 1;
            at = places[lamp];
        }
        return sum;
    }

    private static final class Orders {
        final int[] places;
        final int[] sorted;
        int[] best;

        Orders(int[] round, int[] places) {
            this.places = places;
            sorted = round.clone();
            java.util.Arrays.sort(sorted);
            tryAll(new int[round.length], 0, 0);
        }

        private void tryAll(int[] order, int depth, int used) {
            if (depth == order.length) {
                if (best == null || length(order, places) < length(best, places)) {
                    best = order.clone();
                }
                return;
            }
            for (int i = 0; i < sorted.length; i++) {
                if ((used & 1 << i) == 0) {
                    order[depth] = sorted[i];
                    tryAll(order, depth + 1, used | 1 << i);
                }
            }
        }
    }

    private static void walking() {
        Lampwick x = city(10, 20, 30);
        check.refuses("35 no walk", IllegalStateException.class, () -> x.next());
        check.refuses("36 no walk", IllegalStateException.class, () -> x.pause(true));
        check.refuses("36 no walk", IllegalStateException.class, () -> x.pause(false));
        check.same("34 walk", 3, () -> x.walk(0));
        check.same("35 first", 0, () -> x.next());
        check.same("36 paused", 2, () -> x.pause(true));
        check.refuses("35 paused", IllegalStateException.class, () -> x.next());
        check.same("36 paused still", 2, () -> x.pause(true));
        check.same("36 taken up", 2, () -> x.pause(false));
        check.same("35 second", 1, () -> x.next());
        check.same("35 third", 2, () -> x.next());
        check.refuses("35 none left", NoSuchElementException.class, () -> x.next());
        check.refuses("35 none left", NoSuchElementException.class, () -> x.next());
        check.same("36 none left", 0, () -> x.pause(true));
        check.refuses("35 paused is listed first", IllegalStateException.class, () -> x.next());
        check.same("34 another in its place, not paused", 3, () -> x.walk(0));
        check.same("35 first again", 0, () -> x.next());
    }

    private static void walkingOn() {
        Lampwick x = city(30, 20, 10);
        x.walk(0);
        x.next();
        x.unassign(0);
        x.unassign(0);
        x.unassign(0);
        x.addLamp(0, 5, 0);
        x.assign(0, 3);
        x.assign(0, 2);
        x.arrange(0);
        check.same("35 the round as it was", 1, () -> x.next());
        check.same("36 as it was", 1, () -> x.pause(false));
        check.same("35 to its end", 2, () -> x.next());
        check.refuses("35 its end", NoSuchElementException.class, () -> x.next());
        check.refuses("34 no lighter", IndexOutOfBoundsException.class, () -> x.walk(1));
        check.same("34 the old walk stays", 0, () -> x.pause(false));
        check.same("34 the new round", 2, () -> x.walk(0));
    }
}
