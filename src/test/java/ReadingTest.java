/** Sentences of the document that tell only together: found when it was read once more from its first line. */
public final class ReadingTest {
    private static final Check check = new Check("ReadingTest");

    public static void main(String[] args) {
        lossInOneQuotient();
        coinsRunOutBehindTheMoment();
        mantleBreaksBehindTheMoment();
        lampsGoOutTogether();
        serviceOfLowPressureIsStillAFlow();
        demandOfACutOffService();
        coinsOfACutOffService();
        arrearsOfACutOffService();
        mendingChangesTheMantleAlone();
        illnessAndStrikeHinderOnlyGoing();
        shutAndFrozen();
        lampInTwoRounds();
        walkGoesOnWhateverElseGoes();
        walkOfNoLampsInPlaceOfAnother();
        chargeOverSomeHours();
        gasOfTheHourThatIsLost();
        fogLaterChangesNoMinute();
        hourOfNowAloneCounts();
        whatIsToldHoldsForDays();
        wagesAreTheSameInFog();
        check.end();
    }

    /** A city with gas for weeks, and none coming. */
    private static Lampwick rich() {
        return Cities.holding(15000);
    }

    private static int lampInRound(Lampwick x, int node, int place) {
        int lamp = x.addLamp(node, place, 0);
        x.assign(x.addLighter(), lamp);
        return lamp;
    }

    /** By 100 and then by the fifth power, by the reciprocal, or in doubles, it were 24.661112. */
    private static void lossInOneQuotient() {
        Lampwick x = new Lampwick();
        x.lay(0, 15, 3, 0);
        x.addService(1, 93, 100, false);
        check.same("14 one quotient of two floats", 24.66111f, () -> x.pressure(1));
    }

    /** The service is numbered ahead of the lamp, whose mantle is worn by the pressure ahead of both. */
    private static void coinsRunOutBehindTheMoment() {
        Lampwick x = rich();
        x.lay(0, 40, 2, 0);
        int service = x.addService(1, 20, 100, true);
        int lamp = lampInRound(x, 1, 0);
        Cities.setAllPressures(x, 41);
        x.coins(service, 2);
        x.go(0, true);
        check.same("14 not above 40 with the service", true, () -> x.pressure(1) <= 40f);
        x.pass(1);
        check.same("40 its coins are gone", 0, () -> x.of(service, 'c'));
        check.same("40 worn by the pressure of that moment", 1, () -> x.of(lamp, 'w'));
        check.same("14 above 40 without it", true, () -> x.pressure(1) > 40f);
        x.pass(1);
        check.same("40 and by that of the next", 6, () -> x.of(lamp, 'w'));
    }

    private static void mantleBreaksBehindTheMoment() {
        Lampwick x = rich();
        x.lay(0, 10, 1, 0);
        int old = lampInRound(x, 1, 0);
        int other = lampInRound(x, 1, 0);
        x.go(0, true);
        x.pass(48);
        x.pass(11);
        Cities.setAllPressures(x, 45);
        x.go(1, true);
        check.same("14 by two lamps", 35f, () -> x.pressure(1));
        x.pass(1);
        check.same("22 the old mantle is broken", 'b', () -> x.state(old));
        check.same("40 the other is worn by the pressure ahead of that", 1, () -> x.of(other, 'w'));
        check.same("14 by one lamp", 42.5f, () -> x.pressure(1));
        x.pass(1);
        check.same("40 and by the higher one then", 6, () -> x.of(other, 'w'));
    }

    /** Each could burn alone, but the pressure of that moment is by both. */
    private static void lampsGoOutTogether() {
        Lampwick x = rich();
        x.lay(0, 10, 1, 0);
        int first = lampInRound(x, 1, 0);
        int second = x.addLamp(1, 0, 0);
        x.assign(0, second);
        Cities.setAllPressures(x, 14);
        check.same("30 both lit, the second at 11.5", 2, () -> x.go(0, true));
        check.same("14 at 4", 4f, () -> x.pressure(1));
        x.pass(1);
        check.same("40 neither burns", 0, () -> x.of(first, 'g') + x.of(second, 'g'));
        check.same("40 the first is out", 'o', () -> x.state(first));
        check.same("40 the second is out", 'o', () -> x.state(second));
        check.same("44 nothing burnt of them", 15000, () -> x.holder());
        check.same("14 without them", 14f, () -> x.pressure(1));
    }

    /** What is asked for at a pressure below 5 is not drawn, but is a flow, and lowers what is behind. */
    private static void serviceOfLowPressureIsStillAFlow() {
        Lampwick x = rich();
        x.lay(0, 10, 1, 0);
        x.lay(1, 99, 9, 50);
        int low = x.addService(1, 16, 100, false);
        int high = x.addService(2, 0, 100, false);
        check.same("13 asked for", 16, () -> x.flow(1));
        check.same("14 below 5", true, () -> x.pressure(1) < 5f);
        x.setDemand(high, 1);
        x.pass(1);
        check.same("40 no gas at the node of low pressure", 0, () -> x.of(low, 'g'));
        check.same("40 nor behind it, though a rise gives 2.5 more", 0, () -> x.of(high, 'g'));
        x.setDemand(low, 15);
        x.pass(1);
        check.same("40 with a flow of 16 by both still none", 0, () -> x.of(low, 'g'));
        check.same("40 but behind it by the rise", 1, () -> x.of(high, 'g'));
        x.setDemand(low, 14);
        x.pass(1);
        check.same("40 with 15 it burns", 14, () -> x.of(low, 'g'));
        check.same("40 both", 2, () -> x.of(high, 'g'));
        check.same("44 no more than that is drawn", 15000 - 1 - 15, () -> x.holder());
    }

    private static void demandOfACutOffService() {
        Lampwick x = new Lampwick();
        int service = x.addService(0, 20, 100, false);
        x.cutOff(service, true);
        check.same("17 told while cut off", 20, () -> x.setDemand(service, 30));
        check.same("22 cut off still", 'c', () -> x.state(service));
        check.same("13 asks for nothing", 0, () -> x.flow(0));
        check.same("19 joined again", true, () -> x.cutOff(service, false));
        check.same("13 asks for what was told", 30, () -> x.flow(0));
    }

    private static void coinsOfACutOffService() {
        Lampwick x = rich();
        int service = x.addService(0, 20, 100, true);
        x.coins(service, 3);
        x.cutOff(service, true);
        check.same("18 coins while cut off", 7, () -> x.coins(service, 4));
        x.pass(2);
        check.same("40 an hour cut off costs nothing", 7, () -> x.of(service, 'c'));
        x.cutOff(service, false);
        check.same("19 joined with its coins", 7, () -> x.of(service, 'c'));
        x.pass(4);
        check.same("40 three hours for 2 each", 1, () -> x.of(service, 'c'));
        check.same("23 burnt in three", 3, () -> x.of(service, 'b'));
        check.same("20 no arrears by coins", 0, () -> x.pay(service));
        check.same("20 and paying takes no coin", 1, () -> x.of(service, 'c'));
    }

    private static void arrearsOfACutOffService() {
        Lampwick x = rich();
        int service = x.addService(0, 20, 100, false);
        x.pass(2);
        x.cutOff(service, true);
        x.pass(1);
        check.same("23 arrears stay", 4, () -> x.of(service, 'a'));
        check.same("20 paid while cut off", 4, () -> x.pay(service));
        check.same("20 and no more of them", 0, () -> x.pay(service));
        check.same("22 that joins it not", 'c', () -> x.state(service));
        check.same("23 what was metered stays", 40, () -> x.of(service, 't'));
    }

    private static void mendingChangesTheMantleAlone() {
        Lampwick x = rich();
        x.setFog(true);
        int lamp = lampInRound(x, 0, 70);
        x.pass(2);
        x.go(0, true);
        x.pass(3);
        long before = x.checksum();
        check.same("21 worn by three hours", 3, () -> x.mend(lamp));
        check.same("23 worn", 0, () -> x.of(lamp, 'w'));
        check.same("22 lit still", 'l', () -> x.state(lamp));
        check.same("23 minute", 16, () -> x.of(lamp, 'm'));
        check.same("23 hours", 3, () -> x.of(lamp, 'b'));
        check.same("23 gas", 15, () -> x.of(lamp, 'g'));
        check.same("23 dark", 2, () -> x.of(lamp, 'd'));
        check.same("41 owes", 4, () -> x.owes(0));
        check.same("45 less the wear, by the rows behind it", before - 3L * 31 * 31 * 31 * 31 * 31 * 31,
                () -> x.checksum());
    }

    private static void illnessAndStrikeHinderOnlyGoing() {
        Lampwick x = Cities.street(50, 10);
        x.addLamp(0, 30, 0);
        x.setIll(0, true);
        x.setStrike(true);
        check.same("25 assigned", 3, () -> x.assign(0, 3));
        check.same("31 minutes", 6 + 5 + 3, () -> x.minutes(0));
        check.same("32 shortest", 2 + 3 + 3, () -> x.shortest(0));
        check.same("33 arranged", 6, () -> x.arrange(0));
        check.same("34 walked along", 3, () -> x.walk(0));
        check.same("35 by the order", 2, () -> x.next());
        check.same("26 taken from the end", 1, () -> x.unassign(0));
        check.refuses("30 but not gone", UnsupportedOperationException.class, () -> x.go(0, true));
        x.setIll(0, false);
        check.refuses("30 nobody goes in a strike", UnsupportedOperationException.class, () -> x.go(0, false));
        check.same("43 no wages", 0, () -> x.wages());
        x.setStrike(false);
        check.same("30 gone now", 2, () -> x.go(0, true));
    }

    private static void shutAndFrozen() {
        Lampwick x = rich();
        x.lay(0, 50, 9, 0);
        x.setAge(1, 10);
        x.lay(1, 50, 9, 0);
        x.setAge(2, 20);
        x.setShut(1, true);
        x.setFrozen(1, true);
        check.same("11 opened, but frozen", true, () -> x.setShut(1, false));
        check.same("14 no pressure", 0f, () -> x.pressure(2));
        check.same("12 frozen still", true, () -> x.setFrozen(1, true));
        x.pass(1);
        check.same("44 no leaks", 0L, () -> x.account('l'));
        x.setFrozen(1, false);
        check.same("13 open", 5 + 10, () -> x.flow(1));
        x.setFrozen(2, true);
        x.pass(1);
        check.same("44 the leak of the one alone", 5L, () -> x.account('l'));
        check.same("13 laid behind a frozen one", 3, () -> x.lay(2, 99, 9, 0));
        x.setAge(3, 99);
        x.pass(1);
        check.same("44 it leaks not", 10L, () -> x.account('l'));
        x.setFrozen(2, false);
        x.pass(1);
        check.same("44 but does when thawed", 10L + 5 + 10 + 98, () -> x.account('l'));
    }

    private static void lampInTwoRounds() {
        Lampwick x = Cities.street(100);
        x.addLighter();
        x.addLamp(0, 0, 0);
        x.assign(1, 2);
        x.assign(1, 1);
        check.same("30 by the first", 1, () -> x.go(0, true));
        check.same("23 at", 11, () -> x.of(1, 'm'));
        check.same("30 the second finds it lit", 1, () -> x.go(1, true));
        check.same("23 at the minute of the first", 11, () -> x.of(1, 'm'));
        check.same("30 put out by the second", 2, () -> x.go(1, false));
        check.same("23 at that of the second", 12, () -> x.of(1, 'm'));
        check.same("30 nothing left for the first", 0, () -> x.go(0, false));
        check.same("23 and no minute of it", 12, () -> x.of(1, 'm'));
        check.same("43 wages of all", 1 + 2 + 2 + 1, () -> x.wages());
    }

    private static void walkGoesOnWhateverElseGoes() {
        Lampwick x = Cities.street(90, 10, 40);
        x.walk(0);
        check.same("35 first", 1, () -> x.next());
        x.arrange(0);
        x.unassign(0);
        x.setIll(0, true);
        x.setStrike(true);
        x.pass(30);
        x.mend(2);
        check.same("36 two left", 2, () -> x.pause(true));
        x.setFog(true);
        check.refuses("35 paused still", IllegalStateException.class, () -> x.next());
        check.same("36 taken up", 2, () -> x.pause(false));
        check.same("36 and again", 2, () -> x.pause(false));
        check.same("35 second", 2, () -> x.next());
        check.same("35 third", 3, () -> x.next());
        check.same("36 none left", 0, () -> x.pause(false));
    }

    private static void walkOfNoLampsInPlaceOfAnother() {
        Lampwick x = Cities.street(90, 10);
        x.addLighter();
        x.walk(0);
        x.pause(true);
        check.same("34 a round of none", 0, () -> x.walk(1));
        check.refuses("35 begun and not paused, but none left", java.util.NoSuchElementException.class, () -> x.next());
        check.same("36 paused with none left", 0, () -> x.pause(true));
        check.refuses("35 paused is listed first", IllegalStateException.class, () -> x.next());
        check.same("34 anew", 2, () -> x.walk(0));
        check.same("35 from its first lamp", 1, () -> x.next());
        check.same("34 and anew", 2, () -> x.walk(0));
        check.same("35 from its first lamp again", 1, () -> x.next());
    }

    /** Three tons an hour, then none, then two: each hour's part is mixed by itself. */
    private static void chargeOverSomeHours() {
        Lampwick x = new Lampwick();
        x.setRetorts(3);
        x.charge(3, 4);
        x.charge(0, 4);
        x.pass(1);
        check.same("5 first hour", 26, () -> x.candles());
        x.setRetorts(0);
        x.pass(1);
        check.same("4 none", 390, () -> x.holder());
        check.same("2 waits still", 6, () -> x.charge(1, 1));
        x.setRetorts(2);
        x.pass(1);
        check.same("4 one of each", 390 + 130 + 90, () -> x.holder());
        check.same("5 mixed", (26 * 520 + 12 * 90) / 610, () -> x.candles());
        x.pass(1);
        check.same("5 and mixed", ((26 * 520 + 12 * 90) / 610 * 610 + 12 * 180) / 790, () -> x.candles());
        x.pass(1);
        check.same("4 the last of it, and the next", 790 + 90 + 100, () -> x.holder());
        check.same("6 lime", 3 + 2 + 1 + 1, () -> x.lime());
        check.same("2 none waits", 1, () -> x.charge(1, 1));
    }

    private static void gasOfTheHourThatIsLost() {
        Lampwick x = Cities.holding(19900);
        int service = x.addService(0, 50, 100, false);
        x.setRetorts(3);
        x.charge(1, 3);
        x.pass(1);
        check.same("44 lost ahead of what burns in the hour", 200L, () -> x.account('v'));
        check.same("4 holder", 19950, () -> x.holder());
        check.same("6 but it fouled the lime", 3, () -> x.lime());
        check.same("23 burnt", 50, () -> x.of(service, 'g'));
        check.same("48 sound", true, () -> x.isSound());
    }

    private static void fogLaterChangesNoMinute() {
        Lampwick x = Cities.street(100, 50);
        x.go(0, true);
        x.setFog(true);
        check.same("23 as it was", 11, () -> x.of(1, 'm'));
        check.same("23 as it was", 17, () -> x.of(2, 'm'));
        x.go(0, false);
        check.same("23 twice in fog", 22, () -> x.of(1, 'm'));
        check.same("23 twice in fog", 34, () -> x.of(2, 'm'));
    }

    private static void hourOfNowAloneCounts() {
        Lampwick x = Cities.inHour(23);
        x.setPressure(23, 3);
        x.setPressure(0, 50);
        check.same("14 at once", 3f, () -> x.pressure(0));
        x.pass(1);
        check.same("14 the next day", 50f, () -> x.pressure(0));
        x.pass(23);
        check.same("14 the next evening", 3f, () -> x.pressure(0));
    }

    private static void whatIsToldHoldsForDays() {
        Lampwick x = Cities.street(0);
        x.lay(0, 50, 5, 5);
        x.setAge(1, 40);
        x.setShut(1, true);
        x.setFrozen(1, true);
        x.setIll(0, true);
        x.setStrike(true);
        x.setFog(true);
        x.setCloudy(15, true);
        x.setRetorts(9);
        x.setPressure(7, 9);
        x.addService(0, 3, 90, false);
        x.cutOff(2, true);
        x.pass(48);
        x.pass(48);
        check.same("10 age", 40, () -> x.setAge(1, 40));
        check.same("11 shut", true, () -> x.setShut(1, true));
        check.same("12 frozen", true, () -> x.setFrozen(1, true));
        check.same("27 ill", true, () -> x.setIll(0, true));
        check.same("28 strike", true, () -> x.setStrike(true));
        check.same("29 fog", true, () -> x.setFog(true));
        check.same("37 cloudy", true, () -> x.setCloudy(15, true));
        check.same("3 retorts", 9, () -> x.setRetorts(9));
        check.same("8 pressure", 9, () -> x.setPressure(7, 9));
        check.same("19 cut off", true, () -> x.cutOff(2, true));
        check.same("17 demand", 3, () -> x.setDemand(2, 3));
        check.same("31 the round", 2, () -> x.minutes(0));
        check.same("23 dark in the fog of all hours", 96, () -> x.of(1, 'd'));
    }

    private static void wagesAreTheSameInFog() {
        Lampwick x = Cities.street(10, 20, 30);
        x.setFog(true);
        x.go(0, true);
        check.same("43 one for each lamp", 3, () -> x.wages());
        x.go(0, true);
        check.same("43 changed or not", 6, () -> x.wages());
    }
}
