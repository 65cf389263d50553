/** Promises 40 to 42 and 48: hours that go by, what burns in them, what is owed, and soundness. */
public final class HoursTest {
    private static final Check check = new Check("HoursTest");

    public static void main(String[] args) {
        hours();
        lastHour();
        burning();
        retortsFirst();
        tooLittle();
        lowPressure();
        demandOfLowPressureIsNotDrawn();
        shutMains();
        mantles();
        mantlesAtSixty();
        darkness();
        darknessByFogAndMoon();
        meters();
        coins();
        noDemand();
        check.end();
    }

    private static Lampwick rich() {
        Lampwick x = new Lampwick();
        x.setRetorts(20);
        for (int i = 0; i < 10; i++) {
            x.charge(1, 99);
        }
        x.pass(9);
        x.setRetorts(2);
        return x;
    }

    private static void hours() {
        Lampwick x = new Lampwick();
        check.same("40 one", 1, () -> x.pass(1));
        check.same("40 more", 49, () -> x.pass(48));
        for (int hours : new int[] {0, -1, 49, Integer.MAX_VALUE, Integer.MIN_VALUE}) {
            check.refuses("40 " + hours, IllegalArgumentException.class, () -> x.pass(hours));
        }
        for (int parish : new int[] {-1, 4, Integer.MAX_VALUE, Integer.MIN_VALUE}) {
            check.refuses("41 " + parish, IllegalArgumentException.class, () -> x.owes(parish));
            check.refuses("42 " + parish, IllegalArgumentException.class, () -> x.fines(parish));
        }
        for (int i = 0; i < 4; i++) {
            int parish = i;
            check.same("41 nothing " + i, 0, () -> x.owes(parish));
            check.same("42 nothing " + i, 0, () -> x.fines(parish));
        }
    }

    private static void lastHour() {
        Lampwick x = new Lampwick();
        for (int i = 0; i < 99; i++) {
            x.pass(48);
        }
        check.refuses("40 4800", IllegalStateException.class, () -> x.pass(48));
        check.refuses("40 range first", IllegalArgumentException.class, () -> x.pass(49));
        check.same("40 4799", 4799, () -> x.pass(47));
        check.refuses("40 no more", IllegalStateException.class, () -> x.pass(1));
        check.same("48 sound at the end", true, () -> x.isSound());
    }

    private static void burning() {
        Lampwick x = rich();
        x.addLamp(0, 0, 3);
        x.addLighter();
        x.assign(0, 0);
        x.go(0, true);
        x.pass(4);
        check.same("40 hours burnt", 4, () -> x.of(0, 'b'));
        check.same("40 gas burnt", 20, () -> x.of(0, 'g'));
        check.same("40 worn", 4, () -> x.of(0, 'w'));
        check.same("40 lit still", 'l', () -> x.state(0));
        check.same("41 two for an hour", 8, () -> x.owes(3));
        check.same("42 none", 0, () -> x.fines(3));
        check.same("44 burnt", 20L, () -> x.account('b'));
        check.same("48 sound", true, () -> x.isSound());
    }

    private static void retortsFirst() {
        Lampwick x = new Lampwick();
        x.addService(0, 90, 100, false);
        x.charge(0, 1);
        x.setRetorts(1);
        x.pass(1);
        check.same("40 what the hour makes burns in it, to the last unit", 90, () -> x.of(0, 'g'));
        check.same("4 empty", 0, () -> x.holder());
    }

    private static void tooLittle() {
        Lampwick x = new Lampwick();
        x.lay(0, 50, 9, 0);
        x.setAge(1, 40);
        x.lay(1, 80, 9, 0);
        x.setAge(2, 50);
        x.addLamp(1, 0, 1);
        x.addService(0, 36, 100, false);
        x.addLighter();
        x.assign(0, 0);
        x.go(0, true);
        x.setRetorts(1);
        x.charge(1, 1);
        x.pass(1);
        check.same("40 leaks are drawn", 60L, () -> x.account('l'));
        check.same("40 nothing burns for the want of 1", 0L, () -> x.account('b'));
        check.same("40 and the lamp is out", 'o', () -> x.state(0));
        check.same("42 and dark", 1, () -> x.fines(1));
        check.same("41 below 0", -1, () -> x.owes(1));
        x.pass(1);
        check.same("40 leaks take what there is", 0, () -> x.holder());
        check.same("40 to the last unit", 100L, () -> x.account('l'));
        check.same("48 sound", true, () -> x.isSound());
        x.setDemand(1, 35);
        x.charge(0, 1);
        x.charge(0, 1);
        x.setShut(1, true);
        x.setRetorts(2);
        x.pass(1);
        x.setShut(1, false);
        x.setShut(2, true);
        x.pass(1);
        check.same("40 no leaks behind a shut main", 180 - 35 - 20 - 35, () -> x.holder());
    }

    private static void lowPressure() {
        Lampwick x = rich();
        x.addLamp(0, 0, 0);
        x.addService(0, 10, 100, false);
        x.addLighter();
        x.assign(0, 0);
        x.go(0, true);
        x.setPressure(10, 5);
        x.setPressure(11, 4);
        x.pass(2);
        check.same("40 burns at 5", 2, () -> x.of(0, 'b'));
        x.pass(1);
        check.same("40 not below 5", 2, () -> x.of(0, 'b'));
        check.same("40 and is out then", 'o', () -> x.state(0));
        check.same("40 no service either", 2, () -> x.of(1, 'b'));
        check.same("40 out by itself changes no minute", 1, () -> x.of(0, 'm'));
        x.pass(1);
        check.same("40 the service burns again", 3, () -> x.of(1, 'b'));
        check.same("40 the lamp does not", 2, () -> x.of(0, 'b'));
    }

    private static void demandOfLowPressureIsNotDrawn() {
        Lampwick x = new Lampwick();
        x.lay(0, 99, 1, 0);
        x.addService(1, 99, 100, false);
        x.addService(0, 10, 100, false);
        x.setRetorts(1);
        x.charge(1, 1);
        x.pass(1);
        check.same("13 the flow counts it", 109, () -> x.flow(0));
        check.same("40 but only the other is drawn", 90, () -> x.holder());
        check.same("40 nothing burns there", 0, () -> x.of(0, 'g'));
        check.same("40 the other burns", 10, () -> x.of(1, 'g'));
    }

    private static void shutMains() {
        Lampwick x = rich();
        x.lay(0, 1, 9, 0);
        x.addLamp(1, 0, 0);
        x.addService(1, 10, 100, false);
        x.addLighter();
        x.assign(0, 0);
        x.go(0, true);
        x.setFrozen(1, true);
        x.pass(1);
        check.same("40 a lamp behind a frozen main is out", 'o', () -> x.state(0));
        check.same("40 did not burn", 0, () -> x.of(0, 'g') + x.of(1, 'g') + x.of(1, 'b'));
        x.setFrozen(1, false);
        x.pass(1);
        check.same("40 the service again", 10, () -> x.of(1, 'g'));
    }

    private static void mantles() {
        Lampwick x = rich();
        x.addLamp(0, 0, 0);
        x.addLighter();
        x.assign(0, 0);
        x.go(0, true);
        x.setPressure(9, 40);
        x.setPressure(10, 41);
        x.pass(1);
        check.same("40 by 1 at 40", 1, () -> x.of(0, 'w'));
        x.pass(1);
        check.same("40 by 5 above 40", 6, () -> x.of(0, 'w'));
        x.setPressure(10, 30);
        x.pass(48);
        check.same("40 by 1 in each hour of two days", 6 + 48, () -> x.of(0, 'w'));
        check.same("22 lit", 'l', () -> x.state(0));
        x.pass(5);
        check.same("22 lit at 59", 'l', () -> x.state(0));
        x.pass(1);
        check.same("22 broken at 60", 'b', () -> x.state(0));
        check.same("23 worn by 60", 60, () -> x.of(0, 'w'));
        check.same("23 the last hour counts", 56, () -> x.of(0, 'b'));
        check.same("46 it is out", 0f, () -> x.litShare());
        check.same("13 and asks for nothing", 0, () -> x.flow(0));
        check.same("21 mended", 60, () -> x.mend(0));
        check.same("22 then out", 'o', () -> x.state(0));
    }

    private static void mantlesAtSixty() {
        Lampwick x = rich();
        x.addLamp(0, 0, 0);
        x.addLighter();
        x.assign(0, 0);
        x.go(0, true);
        x.pass(9);
        for (int hour = 0; hour < 24; hour++) {
            x.setPressure(hour, 60);
        }
        x.pass(10);
        check.same("23 by 59", 59, () -> x.of(0, 'w'));
        x.pass(1);
        check.same("23 60 at most", 60, () -> x.of(0, 'w'));
        check.same("22 broken", 'b', () -> x.state(0));
        check.same("48 sound", true, () -> x.isSound());
    }

    private static void darkness() {
        Lampwick x = rich();
        x.addLamp(0, 0, 1);
        x.addLamp(0, 0, 1);
        x.addLighter();
        x.assign(0, 0);
        x.pass(7);
        check.same("42 not due by day", 0, () -> x.fines(1));
        x.pass(1);
        check.same("42 both dark at sunset", 2, () -> x.fines(1));
        x.go(0, true);
        x.pass(2);
        check.same("42 one dark", 4, () -> x.fines(1));
        check.same("23 dark", 1, () -> x.of(0, 'd'));
        check.same("23 dark", 3, () -> x.of(1, 'd'));
        check.same("41 owes", 4 - 4, () -> x.owes(1));
        check.same("42 other parishes", 0, () -> x.fines(0) + x.fines(2) + x.fines(3));
        for (int hour = 0; hour < 24; hour++) {
            x.setPressure(hour, 60);
        }
        x.pass(12);
        check.same("22 broken by hour 31", 'b', () -> x.state(0));
        check.same("42 not dark in the hour in which it broke", 1, () -> x.of(0, 'd'));
        x.pass(1);
        check.same("42 a broken one is dark too", 1 + 1, () -> x.of(0, 'd'));
        x.pass(1);
        check.same("42 not behind sunrise", 2, () -> x.of(0, 'd'));
    }

    private static void darknessByFogAndMoon() {
        Lampwick x = rich();
        x.addLamp(0, 0, 0);
        x.setFog(true);
        x.pass(1);
        check.same("42 fog by day", 1, () -> x.fines(0));
        x.setFog(false);
        for (int i = 0; i < 14; i++) {
            x.pass(24);
        }
        int before = x.fines(0);
        // From hour 346, in day 14 with a full moon, for two days.
        x.pass(48);
        check.same("42 none by a full moon", before, () -> x.fines(0));
        x.setCloudy(16, true);
        x.pass(14);
        check.same("42 cloudy evening", before + 8, () -> x.fines(0));
        x.pass(24);
        check.same("42 half moon, evening only", before + 16, () -> x.fines(0));
    }

    private static void meters() {
        Lampwick x = rich();
        x.addService(0, 11, 95, false);
        x.addService(0, 1, 80, false);
        x.pass(3);
        check.same("23 metered, cut each hour", 30, () -> x.of(0, 't'));
        check.same("23 gas", 33, () -> x.of(0, 'g'));
        check.same("23 arrears", 3, () -> x.of(0, 'a'));
        check.same("23 nothing metered", 0, () -> x.of(1, 't'));
        check.same("23 nothing owed", 0, () -> x.of(1, 'a'));
        check.same("23 but burnt", 3, () -> x.of(1, 'g'));
        x.addService(0, 99, 100, false);
        x.pass(1);
        check.same("23 hundredths of 99", 99, () -> x.of(2, 't'));
        x.cutOff(2, true);
        x.setDemand(0, 0);
        x.pass(1);
        x.setDemand(0, 12);
        check.same("23 one hour more", 4, () -> x.of(0, 'a'));
        x.pass(1);
        check.same("23 11 metered cost 2", 6, () -> x.of(0, 'a'));
        x.cutOff(0, true);
        x.pass(1);
        check.same("19 nothing more", 6, () -> x.of(0, 'a'));
        check.same("19 no hour", 5, () -> x.of(0, 'b'));
        check.same("48 sound", true, () -> x.isSound());
    }

    private static void coins() {
        Lampwick x = rich();
        x.addService(0, 99, 120, true);
        x.coins(0, 23);
        x.pass(1);
        check.same("18 118 metered cost 12", 11, () -> x.of(0, 'c'));
        x.pass(1);
        check.same("18 too few", 11, () -> x.of(0, 'c'));
        check.same("18 one hour", 1, () -> x.of(0, 'b'));
        x.coins(0, 1);
        x.pass(1);
        check.same("18 the last", 0, () -> x.of(0, 'c'));
        check.same("18 no arrears", 0, () -> x.of(0, 'a'));
        x.addService(0, 1, 80, true);
        x.pass(1);
        check.same("18 what costs nothing burns without coins", 1, () -> x.of(1, 'g'));
    }

    private static void noDemand() {
        Lampwick x = rich();
        x.addService(0, 0, 100, false);
        x.addService(0, 30, 100, true);
        x.pass(2);
        check.same("23 nothing asked, no hour burnt", 0, () -> x.of(0, 'b'));
        check.same("23 no coins, no hour burnt", 0, () -> x.of(1, 'b'));
        check.same("23 nothing metered", 0, () -> x.of(1, 't'));
    }
}
