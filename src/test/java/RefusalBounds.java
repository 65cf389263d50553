import java.util.NoSuchElementException;
import java.util.function.Supplier;

/** The Terms' "Exceptions": what is refused changes nothing, and of several exceptions that apply it is the first listed. */
final class RefusalBounds {
    private static final Class<? extends RuntimeException> INDEX = IndexOutOfBoundsException.class;
    private static final Class<? extends RuntimeException> ARGUMENT = IllegalArgumentException.class;
    private static final Class<? extends RuntimeException> STATE = IllegalStateException.class;
    private static final Class<? extends RuntimeException> UNSUPPORTED = UnsupportedOperationException.class;
    private static final Class<? extends RuntimeException> ELEMENT = NoSuchElementException.class;
    /** Numbers of no node, main, fixture or lighter, and out of range for all that a call is told. */
    private static final int[] WRONG = {-51, 4800, Integer.MIN_VALUE, Integer.MAX_VALUE};

    private final Boundaries bounds;

    RefusalBounds(Boundaries bounds) {
        this.bounds = bounds;
    }

    void test() {
        nothingIsChanged(Cities::small);
        nothingIsChanged(Cities::full);
        nothingIsChanged(Lampwick::new);
        refusedInSmall();
        refusedInFull();
        refusedAtTheEnd();
        argumentAheadOfState();
        indexAheadOfAll();
        argumentAheadOfStateWhenFull();
        argumentAheadOfUnsupported();
        ofNothing();
        assigned();
        gone();
        walked();
    }

    /** Each call that is told a number, with a wrong one, in any city. */
    private void nothingIsChanged(Supplier<Lampwick> built) {
        bounds.term("A method that throws an exception changes nothing.");
        for (int wrong : WRONG) {
            bounds.refused("charge, kind " + wrong, ARGUMENT, built, city -> city.charge(wrong, 1));
            bounds.refused("charge, tons " + wrong, ARGUMENT, built, city -> city.charge(1, wrong));
            bounds.refused("setRetorts " + wrong, ARGUMENT, built, city -> city.setRetorts(wrong));
            bounds.refused("setPressure, hour " + wrong, ARGUMENT, built, city -> city.setPressure(wrong, 7));
            bounds.refused("setPressure, pressure " + wrong, ARGUMENT, built, city -> city.setPressure(7, wrong));
            bounds.refused("lay, node " + wrong, INDEX, built, city -> city.lay(wrong, 1, 1, 0));
            bounds.refused("lay, length " + wrong, ARGUMENT, built, city -> city.lay(0, wrong, 1, 0));
            bounds.refused("lay, diameter " + wrong, ARGUMENT, built, city -> city.lay(0, 1, wrong, 0));
            bounds.refused("lay, rise " + wrong, ARGUMENT, built, city -> city.lay(0, 1, 1, wrong));
            bounds.refused("setAge, main " + wrong, INDEX, built, city -> city.setAge(wrong, 7));
            bounds.refused("setShut " + wrong, INDEX, built, city -> city.setShut(wrong, true));
            bounds.refused("setFrozen " + wrong, INDEX, built, city -> city.setFrozen(wrong, true));
            bounds.refused("flow " + wrong, INDEX, built, city -> city.flow(wrong));
            bounds.refused("pressure " + wrong, INDEX, built, city -> city.pressure(wrong));
            bounds.refused("setCloudy " + wrong, ARGUMENT, built, city -> city.setCloudy(wrong, true));
            bounds.refused("moon " + wrong, ARGUMENT, built, city -> city.moon(wrong));
            bounds.refused("isDue " + wrong, ARGUMENT, built, city -> city.isDue(wrong));
            bounds.refused("pass " + wrong, ARGUMENT, built, city -> city.pass(wrong));
            bounds.refused("owes " + wrong, ARGUMENT, built, city -> city.owes(wrong));
            bounds.refused("fines " + wrong, ARGUMENT, built, city -> city.fines(wrong));
            bounds.refused("account " + (char) wrong, ARGUMENT, built, city -> city.account((char) wrong));
            nothingIsChangedByFixtures(built, wrong);
            nothingIsChangedByLighters(built, wrong);
        }
    }

    private void nothingIsChangedByFixtures(Supplier<Lampwick> built, int wrong) {
        bounds.refused("addLamp, node " + wrong, INDEX, built, city -> city.addLamp(wrong, 1, 1));
        bounds.refused("addLamp, place " + wrong, ARGUMENT, built, city -> city.addLamp(0, wrong, 1));
        bounds.refused("addLamp, parish " + wrong, ARGUMENT, built, city -> city.addLamp(0, 1, wrong));
        bounds.refused("addService, node " + wrong, INDEX, built, city -> city.addService(wrong, 1, 100, true));
        bounds.refused("addService, demand " + wrong, ARGUMENT, built, city -> city.addService(0, wrong, 100, true));
        bounds.refused("addService, hundredths " + wrong, ARGUMENT, built, city -> city.addService(0, 1, wrong, false));
        bounds.refused("setDemand " + wrong, INDEX, built, city -> city.setDemand(wrong, 7));
        bounds.refused("coins " + wrong, INDEX, built, city -> city.coins(wrong, 7));
        bounds.refused("cutOff " + wrong, INDEX, built, city -> city.cutOff(wrong, true));
        bounds.refused("pay " + wrong, INDEX, built, city -> city.pay(wrong));
        bounds.refused("mend " + wrong, INDEX, built, city -> city.mend(wrong));
        bounds.refused("state " + wrong, INDEX, built, city -> city.state(wrong));
        bounds.refused("of " + wrong, INDEX, built, city -> city.of(wrong, 'g'));
    }

    private void nothingIsChangedByLighters(Supplier<Lampwick> built, int wrong) {
        bounds.refused("assign, lighter " + wrong, INDEX, built, city -> city.assign(wrong, 0));
        bounds.refused("assign, fixture " + wrong, INDEX, built, city -> city.assign(0, wrong));
        bounds.refused("unassign " + wrong, INDEX, built, city -> city.unassign(wrong));
        bounds.refused("setIll " + wrong, INDEX, built, city -> city.setIll(wrong, true));
        bounds.refused("go " + wrong, INDEX, built, city -> city.go(wrong, true));
        bounds.refused("go " + wrong + ", put out", INDEX, built, city -> city.go(wrong, false));
        bounds.refused("minutes " + wrong, INDEX, built, city -> city.minutes(wrong));
        bounds.refused("shortest " + wrong, INDEX, built, city -> city.shortest(wrong));
        bounds.refused("arrange " + wrong, INDEX, built, city -> city.arrange(wrong));
        bounds.refused("walk " + wrong, INDEX, built, city -> city.walk(wrong));
    }

    /** What is refused there for another reason than a number; 0 and 1 are lamps, 2 a service, 3 one by coins. */
    private void refusedInSmall() {
        Supplier<Lampwick> small = Cities::small;
        for (int lamp = 0; lamp <= 1; lamp++) {
            int told = lamp;
            bounds.refused("setDemand of a lamp", UNSUPPORTED, small, city -> city.setDemand(told, 7));
            bounds.refused("coins of a lamp", UNSUPPORTED, small, city -> city.coins(told, 7));
            bounds.refused("cutOff of a lamp", UNSUPPORTED, small, city -> city.cutOff(told, true));
            bounds.refused("pay of a lamp", UNSUPPORTED, small, city -> city.pay(told));
            bounds.refused("a lamp twice", UNSUPPORTED, small, city -> city.assign(0, told));
        }
        for (int service = 2; service <= 3; service++) {
            int told = service;
            bounds.refused("mend of a service", UNSUPPORTED, small, city -> city.mend(told));
            bounds.refused("assign a service", UNSUPPORTED, small, city -> city.assign(1, told));
        }
        bounds.refused("coins of a service, not by coins", UNSUPPORTED, small, city -> city.coins(2, 7));
        bounds.refused("unassign, none", ELEMENT, small, city -> city.unassign(1));
        bounds.refused("of, no such thing", ARGUMENT, small, city -> city.of(0, 'x'));
        bounds.refused("litShare of none", ArithmeticException.class, Lampwick::new, city -> city.litShare());
        bounds.refused("meanHours of none", ArithmeticException.class, Lampwick::new, city -> city.meanHours());
        bounds.refused("next without a walk", STATE, Lampwick::new, city -> city.next());
        bounds.refused("pause without a walk", STATE, Lampwick::new, city -> city.pause(true));
    }

    private void refusedInFull() {
        Supplier<Lampwick> full = Cities::full;
        bounds.refused("charge 1 ton", STATE, full, city -> city.charge(0, 1));
        bounds.refused("charge 99 tons", STATE, full, city -> city.charge(3, 99));
        bounds.refused("lay", STATE, full, city -> city.lay(11, 99, 9, 50));
        bounds.refused("addLamp", STATE, full, city -> city.addLamp(11, 999, 3));
        bounds.refused("addService", STATE, full, city -> city.addService(11, 99, 120, true));
        bounds.refused("addLighter", STATE, full, city -> city.addLighter());
        for (int lighter = 0; lighter < 6; lighter++) {
            int told = lighter;
            bounds.refused("assign a 7th", STATE, full, city -> city.assign(told, lampNotIn(told)));
        }
        bounds.refused("next, paused", STATE, full, city -> city.next());
    }

    /** A lamp that is not in the round of that lighter of a full city. */
    private static int lampNotIn(int lighter) {
        return lighter < 3 ? 28 : 0;
    }

    private void refusedAtTheEnd() {
        for (int hours : new int[] {1, 2, 47, 48}) {
            bounds.refused("from 4799 by " + hours, STATE, () -> Cities.inHour(4799), city -> city.pass(hours));
        }
        bounds.refused("from 4752 by 48", STATE, () -> Cities.inHour(4752), city -> city.pass(48));
    }

    private static Lampwick full999() {
        Lampwick x = new Lampwick();
        x.setRetorts(2);
        for (int i = 0; i < 10; i++) {
            x.charge(i % 4, 99);
        }
        x.charge(1, 9);
        return x;
    }

    private void argumentAheadOfState() {
        bounds.term("If several conditions of a method apply, the exception that is listed first is thrown.");
        bounds.refused("charge", STATE, RefusalBounds::full999, city -> city.charge(0, 1));
        for (int kind : new int[] {-1, 4, Integer.MIN_VALUE, Integer.MAX_VALUE}) {
            bounds.refused("charge, kind " + kind, ARGUMENT, RefusalBounds::full999, city -> city.charge(kind, 1));
            bounds.refused("charge, kind " + kind + ", 99", ARGUMENT, RefusalBounds::full999, city -> city.charge(kind, 99));
        }
        for (int tons : new int[] {-1, 0, 100, Integer.MIN_VALUE, Integer.MAX_VALUE}) {
            bounds.refused("charge, " + tons, ARGUMENT, RefusalBounds::full999, city -> city.charge(0, tons));
        }
        for (int hour : new int[] {4751, 4798, 4799}) {
            for (int hours : new int[] {0, 49, Integer.MIN_VALUE, Integer.MAX_VALUE}) {
                bounds.refused("pass from " + hour + " by " + hours, ARGUMENT, () -> Cities.inHour(hour),
                        city -> city.pass(hours));
            }
        }
    }

    private void indexAheadOfAll() {
        for (Supplier<Lampwick> built : cities()) {
            for (int none : new int[] {-1, 12, 30, Integer.MAX_VALUE}) {
                bounds.refused("lay, length", INDEX, built, city -> city.lay(none, 0, 9, 50));
                bounds.refused("lay, diameter", INDEX, built, city -> city.lay(none, 99, 10, 50));
                bounds.refused("lay, rise", INDEX, built, city -> city.lay(none, 99, 9, 51));
                bounds.refused("lay", INDEX, built, city -> city.lay(none, 99, 9, 50));
                bounds.refused("setAge", INDEX, built, city -> city.setAge(none, 100));
                bounds.refused("addLamp, place", INDEX, built, city -> city.addLamp(none, 1000, 3));
                bounds.refused("addLamp, parish", INDEX, built, city -> city.addLamp(none, 999, 4));
                bounds.refused("addLamp", INDEX, built, city -> city.addLamp(none, 999, 3));
                bounds.refused("addService, demand", INDEX, built, city -> city.addService(none, 100, 120, true));
                bounds.refused("addService, hundredths", INDEX, built, city -> city.addService(none, 99, 79, true));
                bounds.refused("addService", INDEX, built, city -> city.addService(none, 99, 120, true));
            }
            for (int none : new int[] {-1, 30, Integer.MIN_VALUE}) {
                bounds.refused("setDemand, -1", INDEX, built, city -> city.setDemand(none, -1));
                bounds.refused("setDemand, 100", INDEX, built, city -> city.setDemand(none, 100));
                bounds.refused("coins, 0", INDEX, built, city -> city.coins(none, 0));
                bounds.refused("coins, 100", INDEX, built, city -> city.coins(none, 100));
            }
            bounds.refused("the works are no main, -1 years", INDEX, built, city -> city.setAge(0, -1));
            bounds.refused("the works are no main, 100 years", INDEX, built, city -> city.setAge(0, 100));
        }
    }

    private static java.util.List<Supplier<Lampwick>> cities() {
        return java.util.List.of(Lampwick::new, Cities::small, Cities::full);
    }

    private void argumentAheadOfStateWhenFull() {
        Supplier<Lampwick> full = Cities::full;
        bounds.refused("lay, length 0", ARGUMENT, full, city -> city.lay(0, 0, 1, 0));
        bounds.refused("lay, length 100", ARGUMENT, full, city -> city.lay(11, 100, 1, 0));
        bounds.refused("lay, diameter 0", ARGUMENT, full, city -> city.lay(0, 1, 0, 0));
        bounds.refused("lay, diameter 10", ARGUMENT, full, city -> city.lay(11, 1, 10, 0));
        bounds.refused("lay, rise -51", ARGUMENT, full, city -> city.lay(0, 1, 1, -51));
        bounds.refused("lay, rise 51", ARGUMENT, full, city -> city.lay(11, 1, 1, 51));
        bounds.refused("addLamp, place -1", ARGUMENT, full, city -> city.addLamp(0, -1, 0));
        bounds.refused("addLamp, place 1000", ARGUMENT, full, city -> city.addLamp(11, 1000, 0));
        bounds.refused("addLamp, parish -1", ARGUMENT, full, city -> city.addLamp(0, 0, -1));
        bounds.refused("addLamp, parish 4", ARGUMENT, full, city -> city.addLamp(11, 0, 4));
        bounds.refused("addService, demand -1", ARGUMENT, full, city -> city.addService(0, -1, 100, true));
        bounds.refused("addService, demand 100", ARGUMENT, full, city -> city.addService(11, 100, 100, false));
        bounds.refused("addService, hundredths 79", ARGUMENT, full, city -> city.addService(0, 0, 79, true));
        bounds.refused("addService, hundredths 121", ARGUMENT, full, city -> city.addService(11, 0, 121, false));
    }

    private void argumentAheadOfUnsupported() {
        Supplier<Lampwick> small = Cities::small;
        for (int demand : new int[] {-1, 100, Integer.MIN_VALUE, Integer.MAX_VALUE}) {
            bounds.refused("setDemand of a lamp, " + demand, ARGUMENT, small, city -> city.setDemand(0, demand));
        }
        for (int coins : new int[] {-1, 0, 100, Integer.MIN_VALUE, Integer.MAX_VALUE}) {
            bounds.refused("coins of a lamp, " + coins, ARGUMENT, small, city -> city.coins(0, coins));
            bounds.refused("coins of a service, not by coins, " + coins, ARGUMENT, small, city -> city.coins(2, coins));
        }
    }

    private void ofNothing() {
        for (char what : new char[] {'x', 'B', 0, 65535}) {
            for (int none : new int[] {-1, 4, Integer.MIN_VALUE, Integer.MAX_VALUE}) {
                bounds.refused("of " + none, INDEX, Cities::small, city -> city.of(none, what));
            }
            bounds.refused("of 30", INDEX, Cities::full, city -> city.of(30, what));
            bounds.refused("of 0, none at first", INDEX, Lampwick::new, city -> city.of(0, what));
        }
    }

    private void assigned() {
        for (int lighter : new int[] {-1, 2, 6, Integer.MAX_VALUE}) {
            bounds.refused("no lighter, a service", INDEX, Cities::small, city -> city.assign(lighter, 2));
            bounds.refused("no lighter, no fixture", INDEX, Cities::small, city -> city.assign(lighter, 4));
        }
        for (int fixture : new int[] {-1, 30, Integer.MIN_VALUE}) {
            bounds.refused("no fixture, a full round", INDEX, Cities::full, city -> city.assign(0, fixture));
        }
        bounds.refused("no lighter, a service of a full city", INDEX, Cities::full, city -> city.assign(6, 4));
        for (int service : new int[] {4, 29}) {
            bounds.refused("a service, a full round", UNSUPPORTED, Cities::full, city -> city.assign(5, service));
        }
        for (int lamp : new int[] {0, 1, 2, 3, 5, 6}) {
            bounds.refused("lamp " + lamp + " twice, a full round", UNSUPPORTED, Cities::full, city -> city.assign(0, lamp));
        }
        bounds.refused("a full round alone", STATE, Cities::full, city -> city.assign(0, 7));
    }

    private static Lampwick strike() {
        Lampwick x = Cities.small();
        x.setIll(0, true);
        x.setStrike(true);
        return x;
    }

    private void gone() {
        for (int lighter : new int[] {-1, 2, 6, Integer.MIN_VALUE, Integer.MAX_VALUE}) {
            bounds.refused("go, no lighter, in a strike", INDEX, RefusalBounds::strike, city -> city.go(lighter, true));
            bounds.refused("go, no lighter, in a strike, put out", INDEX, RefusalBounds::strike, city -> city.go(lighter, false));
        }
        bounds.refused("go, one who is ill, in a strike", UNSUPPORTED, RefusalBounds::strike, city -> city.go(0, true));
        bounds.refused("go, one who is well, in a strike", UNSUPPORTED, RefusalBounds::strike, city -> city.go(1, true));
    }

    private static Lampwick walkedToTheEnd(boolean isPaused) {
        Lampwick x = Cities.small();
        x.next();
        x.pause(isPaused);
        return x;
    }

    private void walked() {
        bounds.refused("next, paused, none left", STATE, () -> walkedToTheEnd(true), city -> city.next());
        bounds.refused("next, none left", ELEMENT, () -> walkedToTheEnd(false), city -> city.next());
    }
}
