/** Promises 1 to 8 and 44: a new object, coal, retorts, the holder, candles, lime and the accounts of gas. */
public final class WorksTest {
    private static final Check check = new Check("WorksTest");

    public static void main(String[] args) {
        newObject();
        charging();
        chargingInARow();
        retorts();
        holderAndRoom();
        candles();
        candlesByCall();
        candlesBeyondRoom();
        foulLime();
        pressures();
        accounts();
        check.end();
    }

    private static void newObject() {
        Lampwick x = new Lampwick();
        check.same("1 holder", 0, () -> x.holder());
        check.same("1 candles", 0, () -> x.candles());
        check.same("1 lime", 0, () -> x.lime());
        check.same("1 wages", 0, () -> x.wages());
        check.same("1 flow", 0, () -> x.flow(0));
        check.same("1 pressure", 30f, () -> x.pressure(0));
        check.refuses("1 only the works", IndexOutOfBoundsException.class, () -> x.flow(1));
        check.refuses("1 no fixture", IndexOutOfBoundsException.class, () -> x.state(0));
        check.refuses("1 no lighter", IndexOutOfBoundsException.class, () -> x.minutes(0));
        check.same("1 checksum", 7L * 31 * 31 * 31 * 31 * 31 * 31, () -> x.checksum());
        check.same("1 isSound", true, () -> x.isSound());
        check.same("1 the hour 0", 1, () -> x.pass(1));
        check.same("1 no retorts, no coal", 0, () -> x.holder());
    }

    private static void charging() {
        Lampwick x = new Lampwick();
        check.same("2 charge", 1, () -> x.charge(0, 1));
        check.same("2 charge more", 100, () -> x.charge(3, 99));
        int[][] wrong = {{-1, 1}, {4, 1}, {0, 0}, {0, 100}, {0, -5}, {Integer.MAX_VALUE, 1}, {0, Integer.MIN_VALUE}};
        for (int[] w : wrong) {
            check.refuses("2 charge " + w[0] + " " + w[1], IllegalArgumentException.class, () -> x.charge(w[0], w[1]));
        }
        for (int i = 2; i <= 10; i++) {
            int due = 99 * i + 1;
            check.same("2 charge to " + due, due > 999 ? 0 : due, () -> due > 999 ? 0 : x.charge(1, 99));
        }
        check.refuses("2 1000 tons", IllegalStateException.class, () -> x.charge(1, 9));
        check.same("2 999 tons", 999, () -> x.charge(1, 8));
        check.refuses("2 one more", IllegalStateException.class, () -> x.charge(1, 1));
        check.refuses("2 out of range is listed first", IllegalArgumentException.class, () -> x.charge(4, 1));
        x.setRetorts(3);
        x.pass(1);
        check.same("2 room again", 999, () -> x.charge(1, 3));
    }

    /** What is charged first is burnt first, and the row goes on after it has been empty. */
    private static void chargingInARow() {
        Lampwick x = new Lampwick();
        x.charge(0, 2);
        x.charge(3, 1);
        x.setRetorts(1);
        int[] due = {90, 180, 310, 310};
        for (int i = 0; i < due.length; i++) {
            x.pass(1);
            check.same("2 gas after hour " + i, due[i], () -> x.holder());
        }
        check.same("2 waiting after empty", 4, () -> x.charge(2, 4));
        x.charge(0, 1);
        x.setRetorts(20);
        x.pass(1);
        check.same("2 all kinds", 310 + 440 + 90, () -> x.holder());
        check.same("2 nothing waits", 1, () -> x.charge(1, 1));
    }

    private static void retorts() {
        Lampwick x = new Lampwick();
        check.same("3 retorts", 0, () -> x.setRetorts(20));
        check.same("3 retorts again", 20, () -> x.setRetorts(0));
        check.refuses("3 -1", IllegalArgumentException.class, () -> x.setRetorts(-1));
        check.refuses("3 21", IllegalArgumentException.class, () -> x.setRetorts(21));
        check.same("3 unchanged", 0, () -> x.setRetorts(2));
        x.charge(1, 5);
        x.pass(2);
        check.same("3 as many tons as retorts", 400, () -> x.holder());
        x.pass(1);
        check.same("3 at most those that wait", 500, () -> x.holder());
    }

    private static void holderAndRoom() {
        Lampwick x = new Lampwick();
        x.setRetorts(20);
        x.charge(1, 99);
        x.charge(1, 99);
        x.charge(1, 99);
        x.pass(10);
        check.same("4 full", 20000, () -> x.holder());
        check.same("4 nothing lost", 0L, () -> x.account('v'));
        x.pass(1);
        check.same("4 still full", 20000, () -> x.holder());
        check.same("44 lost for want of room", 2000L, () -> x.account('v'));
        check.same("44 made", 22000L, () -> x.account('m'));
        check.same("48 sound with losses", true, () -> x.isSound());
    }

    private static void candles() {
        int[] due = {12, 14, 16, 26};
        for (int kind = 0; kind < 4; kind++) {
            Lampwick x = new Lampwick();
            x.setRetorts(1);
            x.charge(kind, 1);
            x.pass(1);
            check.same("5 candles of kind " + kind, due[kind], () -> x.candles());
        }
        Lampwick x = new Lampwick();
        x.setRetorts(1);
        x.charge(0, 1);
        x.charge(3, 1);
        x.addService(0, 90, 100, false);
        x.pass(1);
        check.same("5 candles stay when all is burnt", 12, () -> x.candles());
        x.pass(1);
        check.same("5 what it had counts 0", 26, () -> x.candles());
    }

    /** The mixing is cut behind each charge by one call and in each hour anew, which tells in the end. */
    private static void candlesByCall() {
        Lampwick one = new Lampwick();
        one.setRetorts(20);
        one.charge(0, 10);
        one.charge(1, 4);
        one.pass(1);
        check.same("5 one call: (12*900+14*400)/1300", 12, () -> one.candles());
        Lampwick many = new Lampwick();
        many.setRetorts(20);
        many.charge(3, 4);
        many.charge(0, 1);
        many.charge(0, 1);
        many.pass(1);
        int second = ((26 * 520 + 12 * 90) / 610 * 610 + 12 * 90) / 700;
        int atOnce = (26 * 520 + 12 * 180) / 700;
        check.judge("5 the case tells calls apart", true, second != atOnce);
        check.same("5 two calls", second, () -> many.candles());
        Lampwick tons = new Lampwick();
        tons.setRetorts(20);
        tons.charge(3, 4);
        tons.charge(0, 2);
        tons.pass(1);
        check.same("5 one call of two tons", atOnce, () -> tons.candles());
        Lampwick hours = new Lampwick();
        hours.setRetorts(4);
        hours.charge(3, 4);
        hours.charge(0, 2);
        hours.pass(1);
        hours.setRetorts(1);
        hours.pass(2);
        check.same("5 two hours of one call", second, () -> hours.candles());
    }

    private static void candlesBeyondRoom() {
        Lampwick x = new Lampwick();
        x.setRetorts(20);
        for (int i = 0; i < 3; i++) {
            x.charge(0, 99);
        }
        x.pass(14);
        check.same("5 full", 20000, () -> x.holder());
        x.charge(3, 20);
        x.pass(1);
        int first = (12 * 20000 + 12 * 17 * 90) / (20000 + 17 * 90);
        check.same("7 foul by now", 14 * 18 + 19, () -> x.changeLime());
        check.same("5 came and is lost", (first * 20000 + 26 * 390) / 20390, () -> x.candles());
        x.pass(1);
        x.changeLime();
        check.same("5 the rest came too", (12 * 20000 + 26 * 17 * 130) / (20000 + 17 * 130), () -> x.candles());
    }

    private static void foulLime() {
        Lampwick x = new Lampwick();
        x.setRetorts(19);
        x.charge(0, 99);
        x.pass(1);
        check.same("6 a hundredth, cut", 17, () -> x.lime());
        x.pass(4);
        check.same("6 each hour cut", 4 * 17 + 17 + 3, () -> x.lime() + 3);
        check.same("5 not foul below 100", 12, () -> x.candles());
        x.charge(0, 16);
        x.setRetorts(17);
        x.pass(1);
        check.same("6 at 100", 100, () -> x.lime());
        check.same("5 foul from 100 on", 7, () -> x.candles());
        check.same("7 changeLime", 100, () -> x.changeLime());
        check.same("7 new lime", 0, () -> x.lime());
        check.same("7 changed again", 0, () -> x.changeLime());
        check.same("5 clean again", 12, () -> x.candles());
        Lampwick y = new Lampwick();
        y.setRetorts(2);
        y.charge(0, 1);
        y.charge(0, 1);
        y.pass(1);
        check.same("6 by the gas of the hour, not of the ton", 1, () -> y.lime());
        y.setRetorts(20);
        for (int i = 0; i < 6; i++) {
            y.charge(1, 20);
        }
        y.pass(6);
        check.same("6 grows beyond 100", 121, () -> y.lime());
        Lampwick z = new Lampwick();
        z.setRetorts(11);
        for (int i = 0; i < 11; i++) {
            z.charge(0, 11);
        }
        z.pass(11);
        check.same("6 nine for 990", 99, () -> z.lime());
        check.same("5 not foul at 99", 12, () -> z.candles());
        z.charge(1, 1);
        z.pass(1);
        check.same("5 foul at 100", 7, () -> z.candles());
        Lampwick none = new Lampwick();
        check.same("5 no candles", 0, () -> none.candles());
    }

    private static void pressures() {
        Lampwick x = new Lampwick();
        for (int i = 0; i < 24; i++) {
            int hour = i;
            check.same("8 first of hour " + hour, 30, () -> x.setPressure(hour, hour + 1));
        }
        check.same("8 before", 1, () -> x.setPressure(0, 60));
        check.same("8 before again", 60, () -> x.setPressure(0, 1));
        int[][] wrong = {{-1, 30}, {24, 30}, {0, 0}, {0, 61}, {Integer.MIN_VALUE, 1}, {0, Integer.MAX_VALUE}};
        for (int[] w : wrong) {
            check.refuses("8 " + w[0] + " " + w[1], IllegalArgumentException.class, () -> x.setPressure(w[0], w[1]));
        }
        for (int i = 0; i < 30; i++) {
            int hour = i;
            check.same("8 by the hour " + hour, (float) (hour % 24 + 1), () -> x.pressure(0));
            x.pass(1);
        }
    }

    private static void accounts() {
        Lampwick x = new Lampwick();
        x.lay(0, 99, 9, 0);
        x.setAge(1, 99);
        x.addService(0, 7, 100, false);
        x.setRetorts(1);
        x.charge(1, 2);
        x.pass(1);
        check.same("44 made", 100L, () -> x.account('m'));
        check.same("44 leaks alone when all is too much", 98L, () -> x.account('l'));
        check.same("44 nothing burnt", 0L, () -> x.account('b'));
        check.same("4 rest", 2, () -> x.holder());
        x.setAge(1, 50);
        x.pass(1);
        check.same("44 burnt", 7L, () -> x.account('b'));
        check.same("44 leaked", 98L + 49, () -> x.account('l'));
        check.same("44 none lost", 0L, () -> x.account('v'));
        check.same("4 holder", 200 - 98 - 49 - 7, () -> x.holder());
        for (char which : new char[] {'x', 'M', ' ', 0, 255, 'g', 65535}) {
            check.refuses("44 account " + (int) which, IllegalArgumentException.class, () -> x.account(which));
        }
    }
}
