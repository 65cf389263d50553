/** Promises 29, 37 to 39: clouds, the moon, and the hours in which lamps are due. */
public final class SkyTest {
    private static final Check check = new Check("SkyTest");
    private static final int[] NO_DAYS = {-1, 200, Integer.MAX_VALUE, Integer.MIN_VALUE};

    public static void main(String[] args) {
        moons();
        clouds();
        dueBySun();
        dueByMoon();
        dueInFog();
        check.end();
    }

    private static void moons() {
        Lampwick x = new Lampwick();
        String month = "nnnnnnnnnnnhhhfffhhhnnnnnnnnnn";
        for (int i = 0; i < 200; i++) {
            int day = i;
            check.same("38 day " + day, month.charAt(day % 30), () -> x.moon(day));
        }
        for (int day : NO_DAYS) {
            check.refuses("38 day " + day, IllegalArgumentException.class, () -> x.moon(day));
        }
    }

    private static void clouds() {
        Lampwick x = new Lampwick();
        for (int day : new int[] {0, 12, 15, 199}) {
            char clear = x.moon(day);
            check.same("37 clear day " + day, false, () -> x.setCloudy(day, true));
            check.same("38 cloudy day " + day, 'n', () -> x.moon(day));
            check.same("37 cloudy day " + day, true, () -> x.setCloudy(day, true));
            check.same("37 clears day " + day, true, () -> x.setCloudy(day, false));
            check.same("38 clear day " + day, clear, () -> x.moon(day));
            check.same("37 clear again " + day, false, () -> x.setCloudy(day, false));
        }
        for (int day : NO_DAYS) {
            check.refuses("37 day " + day, IllegalArgumentException.class, () -> x.setCloudy(day, true));
        }
    }

    /** Days 0, 44, 45, 90, 135, 179 and 180 with no moon: the sun sets at 16 to 20 and rises at 8 to 4. */
    private static void dueBySun() {
        int[][] days = {{0, 16, 8}, {44, 16, 8}, {45, 17, 7}, {89, 17, 7}, {90, 18, 6}, {134, 18, 6}, {135, 19, 5},
            {179, 19, 5}, {180, 20, 4}, {181, 19, 5}, {199, 19, 5}};
        for (int[] d : days) {
            Lampwick x = new Lampwick();
            x.setCloudy(d[0], true);
            for (int i = 0; i < 24; i++) {
                int hour = i;
                check.same("39 day " + d[0] + " hour " + hour, hour >= d[1] || hour < d[2],
                        () -> x.isDue(24 * d[0] + hour));
            }
        }
        Lampwick x = new Lampwick();
        for (int hour : new int[] {-1, 4800, Integer.MAX_VALUE, Integer.MIN_VALUE}) {
            check.refuses("39 hour " + hour, IllegalArgumentException.class, () -> x.isDue(hour));
        }
        check.same("39 the last hour", true, () -> x.isDue(4799));
    }

    private static void dueByMoon() {
        Lampwick x = new Lampwick();
        for (int i = 0; i < 24; i++) {
            int hour = i;
            check.same("39 half moon, hour " + hour, hour >= 16, () -> x.isDue(24 * 12 + hour));
            check.same("39 full moon, hour " + hour, false, () -> x.isDue(24 * 15 + hour));
            check.same("39 no moon, hour " + hour, hour >= 16 || hour < 8, () -> x.isDue(24 * 20 + hour));
        }
        x.setCloudy(15, true);
        x.setCloudy(12, true);
        check.same("39 cloudy, full", true, () -> x.isDue(24 * 15 + 7));
        check.same("39 cloudy, half", true, () -> x.isDue(24 * 12 + 7));
        check.same("39 not by day", false, () -> x.isDue(24 * 12 + 8));
    }

    private static void dueInFog() {
        Lampwick x = new Lampwick();
        check.same("39 clear noon", false, () -> x.isDue(12));
        x.setFog(true);
        check.same("39 fog at noon", true, () -> x.isDue(12));
        check.same("39 fog by a full moon", true, () -> x.isDue(24 * 15 + 20));
        check.same("39 fog by a half moon", true, () -> x.isDue(24 * 12 + 3));
        check.same("38 the moon in fog", 'f', () -> x.moon(15));
        x.setFog(false);
        check.same("39 the fog of now", false, () -> x.isDue(24 * 15 + 20));
    }
}
