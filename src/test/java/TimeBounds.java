/** Bounds of hours, days, sun and moon: the Terms' "Time", and promises 1, 29 and 37 to 40. */
final class TimeBounds {
    private final Boundaries bounds;

    TimeBounds(Boundaries bounds) {
        this.bounds = bounds;
    }

    void test() {
        hoursAndDays();
        daysOfClouds();
        sunOfEachDay();
        moonOfEachDay();
        moonOfCloudyDays();
        dueBySunAndMoon();
        dueInFog();
        newObject();
        fog();
        cloudy();
        moon();
        isDue();
        pass();
        lastHour();
        hourIsOver();
    }

    private void hoursAndDays() {
        bounds.term("Hours are counted from 0;");
        Lampwick x = new Lampwick();
        for (int hour = 0; hour < 24; hour++) {
            x.setPressure(hour, hour + 1);
        }
        for (int hour = 0; hour < 50; hour++) {
            int due = hour % 24 + 1;
            bounds.same("pressure told for hour " + hour, (float) due, () -> x.pressure(0));
            int next = hour + 1;
            bounds.same("hour " + next, next, () -> x.pass(1));
        }
    }

    /** A day's clouds begin with its hour 0 and end with its hour 23. */
    private void daysOfClouds() {
        for (int day : new int[] {0, 14, 15, 16, 198, 199}) {
            Lampwick clear = new Lampwick();
            Lampwick x = new Lampwick();
            x.setCloudy(day, true);
            for (int i = Math.max(0, 24 * day - 24); i < Math.min(4800, 24 * day + 48); i++) {
                int hour = i;
                boolean isNight = hour % 24 < 4 || hour % 24 >= 20;
                boolean isThatDay = hour >= 24 * day && hour < 24 * day + 24;
                if (isThatDay && isNight) {
                    bounds.same("hour " + hour + ", cloudy", true, () -> x.isDue(hour));
                } else if (!isThatDay) {
                    bounds.same("hour " + hour + ", of another day", clear.isDue(hour), () -> x.isDue(hour));
                }
            }
        }
    }

    private void sunOfEachDay() {
        bounds.term("With a as 180 less how far");
        int[][] days = {{0, 16}, {1, 16}, {44, 16}, {45, 17}, {46, 17}, {89, 17}, {90, 18}, {91, 18}, {134, 18}, {135, 19},
            {136, 19}, {179, 19}, {180, 20}, {181, 19}, {198, 19}, {199, 19}};
        for (int[] told : days) {
            int midnight = 24 * told[0];
            int sunset = told[1];
            int sunrise = 24 - sunset;
            Lampwick x = new Lampwick();
            x.setCloudy(told[0], true);
            String day = "day " + told[0];
            bounds.same(day + ", its first hour", true, () -> x.isDue(midnight));
            bounds.same(day + ", ahead of sunrise", true, () -> x.isDue(midnight + sunrise - 1));
            bounds.same(day + ", at sunrise", false, () -> x.isDue(midnight + sunrise));
            bounds.same(day + ", behind sunrise", false, () -> x.isDue(midnight + sunrise + 1));
            bounds.same(day + ", ahead of sunset", false, () -> x.isDue(midnight + sunset - 1));
            bounds.same(day + ", at sunset", true, () -> x.isDue(midnight + sunset));
            bounds.same(day + ", behind sunset", true, () -> x.isDue(midnight + sunset + 1));
            bounds.same(day + ", its last hour", true, () -> x.isDue(midnight + 23));
        }
    }

    private void moonOfEachDay() {
        bounds.term("The moon of a day is by the rest of the day by 30");
        Lampwick x = new Lampwick();
        for (int i = 0; i < 200; i++) {
            int day = i;
            int rest = day % 30;
            boolean isFull = rest == 14 || rest == 15 || rest == 16;
            boolean isHalf = rest == 11 || rest == 12 || rest == 13 || rest == 17 || rest == 18 || rest == 19;
            bounds.same("day " + day, isFull ? 'f' : isHalf ? 'h' : 'n', () -> x.moon(day));
        }
    }

    private void moonOfCloudyDays() {
        for (int day : new int[] {0, 10, 11, 13, 14, 16, 17, 19, 20, 199}) {
            Lampwick clear = new Lampwick();
            Lampwick x = new Lampwick();
            x.setCloudy(day, true);
            bounds.same("cloudy day " + day, 'n', () -> x.moon(day));
            for (int other : new int[] {day - 1, day + 1, day + 30, day - 30}) {
                if (other >= 0 && other < 200) {
                    bounds.same("day " + other + ", not cloudy", clear.moon(other), () -> x.moon(other));
                }
            }
            x.setCloudy(day, false);
            bounds.same("day " + day + ", no more cloudy", clear.moon(day), () -> x.moon(day));
        }
    }

    private void dueBySunAndMoon() {
        bounds.term("Lamps are due in an hour at or behind sunset");
        Lampwick x = new Lampwick();
        int[] hours = {0, 1, 7, 8, 9, 14, 15, 16, 17, 22, 23};
        for (int i : hours) {
            int hour = i;
            for (int day : new int[] {0, 1, 10, 20}) {
                bounds.same("no moon, day " + day + ", hour " + hour, hour < 8 || hour >= 16, () -> x.isDue(24 * day + hour));
            }
            for (int day : new int[] {11, 13, 17, 19}) {
                bounds.same("half moon, day " + day + ", hour " + hour, hour >= 16, () -> x.isDue(24 * day + hour));
            }
            for (int day : new int[] {14, 15, 16}) {
                bounds.same("full moon, day " + day + ", hour " + hour, false, () -> x.isDue(24 * day + hour));
            }
        }
    }

    private void dueInFog() {
        Lampwick x = new Lampwick();
        x.setFog(true);
        for (int day : new int[] {0, 11, 15, 180, 199}) {
            for (int hour : new int[] {0, 7, 8, 12, 15, 16, 23}) {
                bounds.same("in fog, day " + day + ", hour " + hour, true, () -> x.isDue(24 * day + hour));
            }
        }
        x.setFog(false);
        bounds.same("fog is over", false, () -> x.isDue(12));
    }

    private void newObject() {
        bounds.row(1, "Creates a city with its works, in the hour 0.");
        Lampwick x = new Lampwick();
        bounds.same("only the works", 1, () -> x.lay(0, 1, 1, 0));
        bounds.same("no fixture", 0, () -> x.addLamp(0, 0, 0));
        bounds.same("no lighter", 0, () -> x.addLighter());
        bounds.same("nothing waits", 1, () -> x.charge(0, 1));
        bounds.same("the hour 0", 1, () -> x.pass(1));
    }

    private void fog() {
        bounds.row(29, "Tells whether there is fog.");
        bounds.row(29, "`is`: whether there is");
        bounds.row(29, "Returns whether there was.");
        Lampwick x = new Lampwick();
        bounds.same("none at first", false, () -> x.setFog(false));
        bounds.same("none still", false, () -> x.setFog(true));
        bounds.same("fog", true, () -> x.setFog(true));
        bounds.same("fog still", true, () -> x.setFog(false));
        bounds.same("none again", false, () -> x.setFog(false));
    }

    private void cloudy() {
        bounds.row(37, "Tells whether a day is cloudy.");
        bounds.row(37, "`is`: whether it is");
        bounds.row(37, "Returns whether it was.");
        Lampwick x = new Lampwick();
        for (int day : new int[] {0, 1, 198, 199}) {
            bounds.same("day " + day + " at first", false, () -> x.setCloudy(day, false));
            bounds.same("day " + day + " still not", false, () -> x.setCloudy(day, true));
            bounds.same("day " + day + " was", true, () -> x.setCloudy(day, true));
            bounds.same("day " + day + " was still", true, () -> x.setCloudy(day, false));
            bounds.same("day " + day + " no more", false, () -> x.setCloudy(day, false));
        }
        bounds.row(37, "`day`: 0 to 199");
        bounds.row(37, "Throws `IllegalArgumentException` if it is out of range");
        bounds.range(0, 199, Cities::small, (city, day) -> city.setCloudy(day, true), day -> false);
        bounds.range(0, 199, Cities::small, (city, day) -> city.setCloudy(day, false), day -> false);
    }

    private void moon() {
        bounds.row(38, "Returns the moon of a day, clouds counted.");
        bounds.row(38, "Returns 'f', 'h' or 'n'.");
        Lampwick x = Cities.small();
        bounds.same("day 14", 'f', () -> x.moon(14));
        bounds.same("day 15, cloudy", 'n', () -> x.moon(15));
        bounds.same("day 16", 'f', () -> x.moon(16));
        bounds.row(38, "`day`: 0 to 199");
        bounds.row(38, "Throws `IllegalArgumentException` if it is out of range");
        bounds.range(0, 199, Cities::small, (city, day) -> city.moon(day), day -> day < 198 ? 'n' : 'h');
    }

    private void isDue() {
        bounds.row(39, "Tells whether lamps are due in an hour, by the fog of now.");
        bounds.row(39, "Returns whether they are.");
        Lampwick x = Cities.small();
        bounds.same("noon, clear by now", false, () -> x.isDue(4788));
        x.setFog(true);
        bounds.same("noon, fog by now", true, () -> x.isDue(4788));
        x.setFog(false);
        bounds.same("noon, clear again", false, () -> x.isDue(4788));
        bounds.row(39, "`hour`: 0 to 4799");
        bounds.row(39, "Throws `IllegalArgumentException` if it is out of range");
        bounds.range(0, 4799, Cities::small, (city, hour) -> city.isDue(hour), hour -> true);
    }

    private void pass() {
        bounds.row(40, "Lets hours go by.");
        bounds.row(40, "Returns the hour then.");
        Lampwick x = new Lampwick();
        bounds.same("to 48", 48, () -> x.pass(48));
        bounds.same("to 49", 49, () -> x.pass(1));
        bounds.row(40, "`hours`: 1 to 48");
        bounds.row(40, "Throws `IllegalArgumentException` if it is out of range");
        bounds.range(1, 48, Cities::small, (city, hours) -> city.pass(hours), hours -> 3 + hours);
        bounds.range(1, 48, Cities::full, (city, hours) -> city.pass(hours), hours -> 10 + hours);
    }

    private void lastHour() {
        bounds.row(40, "Throws `IllegalStateException` if it would be above 4799");
        int[][] right = {{4750, 48}, {4751, 47}, {4751, 48}, {4752, 47}, {4752, 46}, {4797, 1}, {4797, 2}, {4798, 1}};
        for (int[] r : right) {
            bounds.same("from " + r[0] + " by " + r[1], r[0] + r[1], () -> Cities.inHour(r[0]).pass(r[1]));
        }
        int[][] wrong = {{4752, 48}, {4753, 47}, {4797, 3}, {4798, 2}, {4798, 48}, {4799, 1}, {4799, 2}, {4799, 48}};
        for (int[] w : wrong) {
            bounds.refused("from " + w[0] + " by " + w[1], IllegalStateException.class, () -> Cities.inHour(w[0]),
                    city -> city.pass(w[1]));
        }
        Lampwick x = Cities.inHour(4799);
        x.setPressure(23, 59);
        bounds.same("the last hour's pressure", 59f, () -> x.pressure(0));
    }

    private void hourIsOver() {
        bounds.term("Then the hour is over.");
        Lampwick x = new Lampwick();
        x.addLamp(0, 0, 0);
        x.pass(15);
        bounds.same("hour 15 is to come", 8, () -> x.fines(0));
        x.pass(1);
        bounds.same("hour 15 is over, 16 to come", 8, () -> x.fines(0));
        x.pass(1);
        bounds.same("hour 16 is over", 9, () -> x.fines(0));
        Lampwick once = new Lampwick();
        once.addLamp(0, 0, 0);
        bounds.same("17 hours at once", 17, () -> once.pass(17));
        bounds.same("are as 17 hours one by one", x.checksum(), () -> once.checksum());
    }
}
