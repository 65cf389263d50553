/** Cities for the boundary tests, the same one at each call. */
final class Cities {
    private Cities() {
    }

    /**
     * Hour 3. Nodes 0 - 1 - 2; 5 tons wait; lamps 0 and 1 burn, service 2 owes, service 3 is by coins; lighter 0 has
     * the lamps as a round, lighter 1 has none; of a walk along the round lamp 1 is left.
     */
    static Lampwick small() {
        Lampwick city = new Lampwick();
        city.charge(0, 7);
        city.charge(3, 4);
        city.setRetorts(2);
        city.setPressure(5, 33);
        city.lay(0, 20, 3, 10);
        city.lay(1, 30, 2, -20);
        city.setAge(1, 10);
        city.addLamp(1, 100, 0);
        city.addLamp(2, 40, 1);
        city.addService(2, 20, 110, false);
        city.addService(0, 50, 90, true);
        city.coins(3, 9);
        city.addLighter();
        city.addLighter();
        city.assign(0, 0);
        city.assign(0, 1);
        city.go(0, true);
        city.pass(3);
        city.walk(0);
        city.next();
        city.setCloudy(15, true);
        return city;
    }

    /** Hour 10. 12 nodes, 30 fixtures (each fifth a service), 6 rounds of 6 lamps, 999 tons, a paused walk. */
    static Lampwick full() {
        Lampwick city = new Lampwick();
        city.setRetorts(20);
        city.charge(1, 99);
        city.charge(1, 99);
        city.pass(8);
        city.setRetorts(3);
        for (int node = 1; node < 12; node++) {
            city.lay(node / 2, 5 + node, 9 - node % 7, 3 * node - 18);
            city.setAge(node, 4 * node);
        }
        for (int i = 0; i < 30; i++) {
            if (i % 5 == 4) {
                city.addService(i % 12, i, 85 + i, i % 2 == 0);
            } else {
                city.addLamp(i % 12, 33 * i, i % 4);
            }
        }
        city.coins(4, 99);
        for (int lighter = 0; lighter < 6; lighter++) {
            addRoundOfSix(city);
        }
        city.go(0, true);
        city.go(1, true);
        city.pass(2);
        for (int tons : new int[] {32 + 6, 99, 99, 99, 99, 99, 99, 99, 99, 99, 38}) {
            city.charge(tons % 4, tons);
        }
        city.walk(2);
        city.next();
        city.pause(true);
        return city;
    }

    private static void addRoundOfSix(Lampwick city) {
        int lighter = city.addLighter();
        int size = 0;
        for (int fixture = 4 * lighter; size < 6; fixture++) {
            if (fixture % 5 != 4) {
                size = city.assign(lighter, fixture);
            }
        }
    }

    /** So much gas of 14 candles in the holder, clean lime and nothing that waits; fixture 0 asks for nothing. */
    static Lampwick holding(int gas) {
        Lampwick city = new Lampwick();
        int tons = (gas + 99) / 100;
        city.setRetorts(20);
        for (int rest = tons; rest > 0; rest -= 99) {
            city.charge(1, Math.min(99, rest));
        }
        for (int made = 0; made < tons; made += 20) {
            city.pass(1);
        }
        city.addService(0, 100 * tons - gas, 100, false);
        city.pass(1);
        city.setDemand(0, 0);
        city.pay(0);
        city.changeLime();
        city.setRetorts(0);
        return city;
    }

    /** A city with nothing in it, in that hour. */
    static Lampwick inHour(int hour) {
        Lampwick city = new Lampwick();
        for (int now = 0; now < hour; now += 48) {
            city.pass(Math.min(48, hour - now));
        }
        return city;
    }

    /** Gas enough for days, and lamps at those places of the works, in one round; none is lit. */
    static Lampwick street(int... places) {
        Lampwick city = holding(10000);
        city.addLighter();
        for (int place : places) {
            city.assign(0, city.addLamp(0, place, 0));
        }
        return city;
    }

    /** Lamp 1 of the works has burnt so many hours at a pressure of 30; 60 break it. */
    static Lampwick worn(int hours) {
        Lampwick city = street(0);
        city.go(0, true);
        for (int rest = hours; rest > 0; rest -= 48) {
            city.pass(Math.min(48, rest));
        }
        return city;
    }

    static void setAllPressures(Lampwick city, int pressure) {
        for (int hour = 0; hour < 24; hour++) {
            city.setPressure(hour, pressure);
        }
    }
}
