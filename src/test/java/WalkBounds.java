import java.util.NoSuchElementException;

/** Bounds of shortest orders and of the walk: the last of the Terms' "Rounds", and promises 32 to 36. */
final class WalkBounds {
    private final Boundaries bounds;

    WalkBounds(Boundaries bounds) {
        this.bounds = bounds;
    }

    void test() {
        shortest();
        shortestChangesNothing();
        arrange();
        arrangeEquals();
        arrangeByPlaces();
        asItWasWhenBegun();
        walk();
        inPlaceOfAnother();
        next();
        nextRefused();
        noLampLeft();
        pause();
        pausedAndTakenUp();
    }

    private static Lampwick lighters(int count) {
        Lampwick x = new Lampwick();
        for (int i = 0; i < count; i++) {
            x.addLighter();
        }
        return x;
    }

    /** Lamps numbered from 0 at those places of the works, none in a round; two lighters. */
    private static Lampwick lampsAt(int... places) {
        Lampwick x = lighters(2);
        for (int place : places) {
            x.addLamp(0, place, 0);
        }
        return x;
    }

    private static Lampwick assigned(Lampwick x, int... lamps) {
        for (int lamp : lamps) {
            x.assign(0, lamp);
        }
        return x;
    }

    /** Seven lamps, of which the round of lighter 0 has the first so many, the farthest first. */
    private static Lampwick round(int size) {
        Lampwick x = lampsAt(600, 500, 400, 300, 200, 100, 0);
        for (int lamp = 0; lamp < size; lamp++) {
            x.assign(0, lamp);
        }
        return x;
    }

    /** The lamps of the round of lighter 0, told by a walk to its end. */
    private void order(String call, Lampwick x, int... due) {
        bounds.same(call + ", lamps", due.length, () -> x.walk(0));
        for (int i = 0; i < due.length; i++) {
            int place = i + 1;
            int lamp = due[i];
            bounds.same(call + ", the lamp at place " + place, lamp, () -> x.next());
        }
        bounds.same(call + ", no more", NoSuchElementException.class, () -> x.next());
    }

    private void shortest() {
        bounds.row(32, "Returns how many minutes the shortest order of a round would take.");
        bounds.row(32, "Returns the minutes.");
        bounds.same("an empty round", 0, () -> lighters(1).shortest(0));
        for (int place : new int[] {0, 9, 10, 999}) {
            bounds.same("one lamp at " + place, place / 10 + 1, () -> assigned(lampsAt(place), 0).shortest(0));
        }
        for (int size = 1; size <= 6; size++) {
            int lamps = size;
            int nearest = 700 - 100 * lamps;
            int due = nearest / 10 + 1 + 11 * (lamps - 1);
            bounds.same(lamps + " lamps, the farthest first", due, () -> round(lamps).shortest(0));
            bounds.same(lamps + " lamps, in fog", 2 * due, () -> inFog(round(lamps)).shortest(0));
        }
        bounds.same("six at one place", 100 + 5, () -> assigned(lampsAt(999, 999, 999, 999, 999, 999), 5, 4, 3, 2, 1, 0).shortest(0));
        bounds.same("six at 0", 6, () -> assigned(lampsAt(0, 0, 0, 0, 0, 0), 0, 1, 2, 3, 4, 5).shortest(0));
        bounds.same("ways are cut: not by the places' order", 1 + 1 + 2, () -> assigned(lampsAt(0, 9, 19), 2, 1, 0).shortest(0));
        bounds.same("the nearest first is not the shortest", 1 + 1 + 1, () -> assigned(lampsAt(9, 0, 18), 0, 1, 2).shortest(0));
        bounds.row(32, "`lighter`: the lighter");
        bounds.row(32, "Throws `IndexOutOfBoundsException` if there is no such lighter");
        bounds.index(0, 0, () -> lighters(1), (city, lighter) -> city.shortest(lighter), lighter -> 0);
        bounds.index(0, 1, () -> round(6), (city, lighter) -> city.shortest(lighter), lighter -> lighter == 0 ? 66 : 0);
        bounds.index(0, 5, () -> lighters(6), (city, lighter) -> city.shortest(lighter), lighter -> 0);
        bounds.refused("none at first", IndexOutOfBoundsException.class, Lampwick::new, city -> city.shortest(0));
    }

    private static Lampwick inFog(Lampwick x) {
        x.setFog(true);
        return x;
    }

    private void shortestChangesNothing() {
        bounds.row(32, "Returns the minutes.");
        Lampwick x = round(6);
        int before = x.minutes(0);
        bounds.same("six lamps", 11 + 55, () -> x.shortest(0));
        bounds.same("told only", before, () -> x.minutes(0));
        order("told only", x, 0, 1, 2, 3, 4, 5);
        x.unassign(0);
        bounds.same("without the nearest", 21 + 44, () -> x.shortest(0));
        for (int size = 5; size > 1; size--) {
            x.unassign(0);
        }
        bounds.same("one is left", 61, () -> x.shortest(0));
        x.unassign(0);
        bounds.same("none is left", 0, () -> x.shortest(0));
        x.setIll(0, true);
        x.setStrike(true);
        x.assign(0, 5);
        bounds.same("of one who is ill, in a strike", 11, () -> x.shortest(0));
    }

    private void arrange() {
        bounds.row(33, "Puts the lamps of a round into the first of the shortest orders");
        bounds.row(33, "Returns how many minutes are won.");
        bounds.same("an empty round", 0, () -> lighters(1).arrange(0));
        for (int size = 1; size <= 6; size++) {
            Lampwick x = round(size);
            int won = x.minutes(0) - x.shortest(0);
            int left = x.shortest(0);
            bounds.same(size + " lamps", won, () -> x.arrange(0));
            bounds.same(size + " lamps, then", left, () -> x.minutes(0));
            bounds.same(size + " lamps, again", 0, () -> x.arrange(0));
            int[] due = new int[size];
            for (int i = 0; i < size; i++) {
                due[i] = size - 1 - i;
            }
            order(size + " lamps, the nearest first", x, due);
            Lampwick fog = inFog(round(size));
            bounds.same(size + " lamps, in fog", 2 * won, () -> fog.arrange(0));
            order(size + " lamps, in fog as without", fog, due);
        }
        Lampwick hindered = round(2);
        hindered.setIll(0, true);
        hindered.setStrike(true);
        bounds.same("of one who is ill, in a strike", 61 + 11 - 51 - 11, () -> hindered.arrange(0));
        bounds.row(33, "`lighter`: the lighter");
        bounds.row(33, "Throws `IndexOutOfBoundsException` if there is no such lighter");
        bounds.index(0, 0, () -> lighters(1), (city, lighter) -> city.arrange(lighter), lighter -> 0);
        bounds.index(0, 1, () -> round(2), (city, lighter) -> city.arrange(lighter), lighter -> lighter == 0 ? 10 : 0);
        bounds.index(0, 5, () -> lighters(6), (city, lighter) -> city.arrange(lighter), lighter -> 0);
        bounds.refused("none at first", IndexOutOfBoundsException.class, Lampwick::new, city -> city.arrange(0));
    }

    private void arrangeEquals() {
        bounds.row(33, "Puts the lamps of a round into the first of the shortest orders");
        Lampwick six = assigned(lampsAt(50, 50, 50, 50, 50, 50), 5, 3, 1, 4, 2, 0);
        bounds.same("all at one place: nothing won", 0, () -> six.arrange(0));
        order("all at one place: by numbers", six, 0, 1, 2, 3, 4, 5);
        Lampwick two = assigned(lampsAt(9, 0), 1, 0);
        bounds.same("two within a tenth: nothing won", 0, () -> two.arrange(0));
        order("two within a tenth: by numbers", two, 0, 1);
        Lampwick tenth = assigned(lampsAt(10, 0), 0, 1);
        bounds.same("a tenth more", 2 + 2 - 1 - 2, () -> tenth.arrange(0));
        order("a tenth more: by the way", tenth, 1, 0);
        Lampwick high = lampsAt(0, 0, 0, 0, 0, 0, 0, 0, 0, 0, 0, 5);
        assigned(high, 11, 2, 10, 9);
        bounds.same("by numbers, not by signs", 0, () -> high.arrange(0));
        order("by numbers, not by signs", high, 2, 9, 10, 11);
        Lampwick other = assigned(lampsAt(50, 40), 0, 1);
        other.assign(1, 0);
        other.assign(1, 1);
        bounds.same("one round", 1, () -> other.arrange(0));
        bounds.same("another one stays", 6 + 2, () -> other.minutes(1));
        order("the one", other, 1, 0);
    }

    /** Orders that are equally short, of which the first by numbers is told by a later place. */
    private void arrangeByPlaces() {
        bounds.row(33, "Puts the lamps of a round into the first of the shortest orders");
        Lampwick near = assigned(lampsAt(5, 0, 9, 100), 3, 2, 1, 0);
        bounds.same("three near, one far", 11 + 10 + 1 + 1 - 1 - 1 - 1 - 10, () -> near.arrange(0));
        order("three near, one far: the far one by the nearest of them", near, 0, 1, 2, 3);
        Lampwick last = assigned(lampsAt(9, 5, 0, 100), 3, 2, 1, 0);
        bounds.same("as near, numbered backwards", 11 + 11 + 1 + 1 - 1 - 1 - 1 - 10, () -> last.arrange(0));
        order("as near, numbered backwards: the lowest first, the far one not from 0", last, 0, 2, 1, 3);
        Lampwick pairs = assigned(lampsAt(100, 0, 100, 0), 0, 2, 1, 3);
        bounds.same("two pairs", 11 + 1 + 11 + 1 - 1 - 1 - 11 - 1, () -> pairs.arrange(0));
        order("two pairs: each by numbers", pairs, 1, 3, 0, 2);
        Lampwick within = assigned(lampsAt(4, 12, 4), 2, 1, 0);
        bounds.same("the second within a tenth of the first, not of 0", 0, () -> within.arrange(0));
        order("the second within a tenth of the first, not of 0", within, 0, 1, 2);
        Lampwick beyond = assigned(lampsAt(4, 16, 12), 2, 1, 0);
        bounds.same("the second beyond a tenth of the first", 2 + 1 + 2 - 1 - 1 - 1, () -> beyond.arrange(0));
        order("the second beyond a tenth of the first", beyond, 0, 2, 1);
    }

    private void asItWasWhenBegun() {
        bounds.term("A walk along a round can be begun, gone on with lamp by lamp, paused and taken up again:");
        Lampwick x = round(3);
        x.walk(0);
        bounds.same("the first", 0, () -> x.next());
        x.arrange(0);
        x.assign(0, 6);
        bounds.same("arranged and longer: as it was, two left", 2, () -> x.pause(true));
        for (int i = 0; i < 4; i++) {
            x.unassign(0);
        }
        bounds.same("empty now: as it was, two left", 2, () -> x.pause(false));
        x.assign(0, 5);
        bounds.same("the second", 1, () -> x.next());
        bounds.same("the third", 2, () -> x.next());
        bounds.same("none left", NoSuchElementException.class, () -> x.next());
        bounds.same("begun anew: as it is", 1, () -> x.walk(0));
        bounds.same("begun anew", 5, () -> x.next());
        Lampwick empty = round(0);
        empty.walk(0);
        empty.assign(0, 0);
        bounds.same("begun when empty: none left", NoSuchElementException.class, () -> empty.next());
        bounds.same("begun when empty", 0, () -> empty.pause(false));
        Lampwick whole = round(6);
        whole.walk(0);
        whole.unassign(0);
        whole.addLighter();
        whole.go(0, true);
        whole.pass(48);
        for (int lamp = 0; lamp < 6; lamp++) {
            int due = lamp;
            bounds.same("the one taken from it since, too", due, () -> whole.next());
        }
    }

    private void walk() {
        bounds.row(34, "Returns how many lamps it has.");
        for (int size = 0; size <= 6; size++) {
            int lamps = size;
            bounds.same("lamps", lamps, () -> round(lamps).walk(0));
            bounds.same("lamps left", lamps, () -> {
                Lampwick x = round(lamps);
                x.walk(0);
                return x.pause(false);
            });
        }
        bounds.row(34, "`lighter`: the lighter");
        bounds.row(34, "Throws `IndexOutOfBoundsException` if there is no such lighter");
        bounds.index(0, 0, () -> lighters(1), (city, lighter) -> city.walk(lighter), lighter -> 0);
        bounds.index(0, 1, () -> round(6), (city, lighter) -> city.walk(lighter), lighter -> lighter == 0 ? 6 : 0);
        bounds.index(0, 1, Cities::small, (city, lighter) -> city.walk(lighter), lighter -> lighter == 0 ? 2 : 0);
        bounds.index(0, 5, Cities::full, (city, lighter) -> city.walk(lighter), lighter -> 6);
        bounds.refused("none at first", IndexOutOfBoundsException.class, Lampwick::new, city -> city.walk(0));
    }

    private void inPlaceOfAnother() {
        bounds.row(34, "Begins a walk along a round, in place of another walk.");
        Lampwick x = round(3);
        x.assign(1, 6);
        x.assign(1, 5);
        x.walk(0);
        x.next();
        bounds.same("another round", 2, () -> x.walk(1));
        bounds.same("its first", 6, () -> x.next());
        bounds.same("its one left", 1, () -> x.pause(false));
        bounds.same("the first round again, from its first", 3, () -> x.walk(0));
        bounds.same("the first", 0, () -> x.next());
        x.pause(true);
        bounds.same("in place of one that is paused", 2, () -> x.walk(1));
        bounds.same("not paused", 6, () -> x.next());
        bounds.same("then", 5, () -> x.next());
        bounds.same("at its end", NoSuchElementException.class, () -> x.next());
        bounds.same("in place of one that is at its end", 3, () -> x.walk(0));
        bounds.same("the first", 0, () -> x.next());
    }

    private void next() {
        bounds.row(35, "Goes on with the walk.");
        bounds.row(35, "Returns the lamp.");
        for (int size = 1; size <= 6; size++) {
            Lampwick x = round(size);
            x.walk(0);
            for (int lamp = 0; lamp < size; lamp++) {
                int due = lamp;
                bounds.same("of " + size, due, () -> x.next());
                bounds.same("left of " + size, size - 1 - due, () -> x.pause(false));
            }
            bounds.same("at the end of " + size, NoSuchElementException.class, () -> x.next());
        }
        Lampwick high = lighters(1);
        for (int i = 0; i < 30; i++) {
            high.addLamp(0, 0, 0);
        }
        assigned(high, 29, 0, 28).walk(0);
        bounds.same("the last number", 29, () -> high.next());
        bounds.same("the first number", 0, () -> high.next());
    }

    /** A walk along a round of three, that many of them gone to. */
    private static Lampwick walked(int gone, boolean isPaused) {
        Lampwick x = round(3);
        x.walk(0);
        for (int i = 0; i < gone; i++) {
            x.next();
        }
        x.pause(isPaused);
        return x;
    }

    private void nextRefused() {
        bounds.row(35, "Throws `IllegalStateException` if no walk was begun, or it is paused");
        bounds.refused("a new city", IllegalStateException.class, Lampwick::new, city -> city.next());
        bounds.refused("no walk was begun", IllegalStateException.class, () -> round(6), city -> city.next());
        bounds.refused("a walk that was refused", IllegalStateException.class, () -> {
            Lampwick x = round(6);
            bounds.same("no such lighter", IndexOutOfBoundsException.class, () -> x.walk(2));
            return x;
        }, city -> city.next());
        for (int gone = 0; gone <= 3; gone++) {
            int lamps = gone;
            bounds.refused("paused behind " + lamps, IllegalStateException.class, () -> walked(lamps, true),
                    city -> city.next());
        }
        bounds.refused("an empty one, paused", IllegalStateException.class, () -> {
            Lampwick x = round(0);
            x.walk(0);
            x.pause(true);
            return x;
        }, city -> city.next());
        bounds.refused("paused in a full city", IllegalStateException.class, Cities::full, city -> city.next());
    }

    private void noLampLeft() {
        bounds.row(35, "Throws `NoSuchElementException` if no lamp is left");
        for (int gone = 0; gone < 3; gone++) {
            int lamps = gone;
            bounds.same("behind " + lamps + " of 3", lamps, () -> walked(lamps, false).next());
        }
        bounds.refused("behind 3 of 3", NoSuchElementException.class, () -> walked(3, false), city -> city.next());
        bounds.refused("of an empty one", NoSuchElementException.class, () -> {
            Lampwick x = round(0);
            x.walk(0);
            return x;
        }, city -> city.next());
        bounds.refused("behind 6 of 6", NoSuchElementException.class, () -> {
            Lampwick x = round(6);
            x.walk(0);
            for (int i = 0; i < 6; i++) {
                x.next();
            }
            return x;
        }, city -> city.next());
    }

    private void pause() {
        bounds.row(36, "Pauses the walk, or takes it up again.");
        bounds.row(36, "Returns how many lamps are left.");
        for (boolean is : new boolean[] {true, false}) {
            for (int gone = 0; gone <= 3; gone++) {
                int lamps = gone;
                bounds.same("behind " + lamps + " of 3", 3 - lamps, () -> walked(lamps, false).pause(is));
                bounds.same("behind " + lamps + " of 3, paused", 3 - lamps, () -> walked(lamps, true).pause(is));
            }
        }
        bounds.row(36, "Throws `IllegalStateException` if no walk was begun");
        for (boolean is : new boolean[] {true, false}) {
            bounds.refused("a new city", IllegalStateException.class, Lampwick::new, city -> city.pause(is));
            bounds.refused("no walk", IllegalStateException.class, () -> round(6), city -> city.pause(is));
            bounds.same("an empty walk", 0, () -> {
                Lampwick x = round(0);
                x.walk(0);
                return x.pause(is);
            });
        }
    }

    private void pausedAndTakenUp() {
        bounds.row(36, "`is`: whether it is paused then");
        Lampwick x = round(3);
        x.walk(0);
        bounds.same("goes on at first", 0, () -> x.next());
        bounds.same("taken up, not paused", 2, () -> x.pause(false));
        bounds.same("goes on", 1, () -> x.next());
        bounds.same("paused", 1, () -> x.pause(true));
        bounds.same("paused twice", 1, () -> x.pause(true));
        bounds.same("does not go on", IllegalStateException.class, () -> x.next());
        bounds.same("taken up by one call", 1, () -> x.pause(false));
        bounds.same("goes on where it was", 2, () -> x.next());
    }
}
