/** Promises 19 to 28: odds, gains, whom to believe. */
public final class WorthTest {
    private static final int MIN = Integer.MIN_VALUE, MAX = Integer.MAX_VALUE;
    private static final long NO = -1000000000000L;
    private static final int[] BAD_DAYS = {-1, 20, MIN, MAX};
    private static final int[] BAD_WEATHERS = {-1, 4, MIN, MAX};
    private static final int[] BAD_PARTS = {-1, 2, MIN, MAX};

    public static void main(String[] args) {
        odds();
        gain();
        waited();
        waitedWithNothingWorthSaying();
        best();
        whole();
        owed();
        believed();
        believedOfOne();
        whom();
        open();
        seed();
        Due.end();
    }

    private static void fraction(String call, long above, long below, long wantAbove, long wantBelow) {
        Due.is(call + " above", above, wantAbove);
        Due.is(call + " below", below, wantBelow);
    }

    private static void odds() {
        SaidWeather x = new SaidWeather();
        Places.weights(x, 3, 0, 2, 4, 6);
        int[][] want = {{0, 1}, {1, 6}, {1, 3}, {1, 2}};
        for (int weather = 0; weather < 4; weather++) {
            fraction("odds " + weather, x.odds(3, weather, 0), x.odds(3, weather, 1),
                want[weather][0], want[weather][1]);
        }
        x.sign(3, 0);
        fraction("odds with a SIGN", x.odds(3, 0, 0), x.odds(3, 0, 1), 1, 3);
        x.set(3, 0);
        fraction("odds, SIGNS 0", x.odds(3, 0, 0), x.odds(3, 0, 1), 0, 1);
        Places.weights(x, 4, 0, 0, 7, 0);
        fraction("odds of what is certain", x.odds(4, 2, 0), x.odds(4, 2, 1), 1, 1);
        for (int bad : BAD_DAYS) {
            Due.is("odds day " + bad, x.odds(bad, 0, 0), -1);
        }
        for (int bad : BAD_WEATHERS) {
            Due.is("odds weather " + bad, x.odds(0, bad, 0), -1);
        }
        for (int bad : BAD_PARTS) {
            Due.is("odds part " + bad, x.odds(0, 0, bad), -1);
        }
        x.morning(1);
        Due.is("odds of a DAY that is over", x.odds(0, 0, 0), -1);
        Due.is("odds of NOW", x.odds(1, 0, 1), 4);
        x.sayer(0, 0);
        x.say(0, 1, 0);
        Due.is("odds of what is said", x.odds(1, 0, 0), 1);
    }

    private static void gain() {
        SaidWeather x = new SaidWeather();
        x.sayer(0, 0);
        x.worth(2, 99);
        Places.weights(x, 2, 1, 2, 3, 0);
        // EARN 9, FINE 2, PRICE 1, all 6
        fraction("gain 0", x.gain(2, 0, 0), x.gain(2, 0, 1), -7, 6);
        fraction("gain 1", x.gain(2, 1, 0), x.gain(2, 1, 1), 2, 3);
        fraction("gain 2", x.gain(2, 2, 0), x.gain(2, 2, 1), 5, 2);
        fraction("gain 3", x.gain(2, 3, 0), x.gain(2, 3, 1), -3, 1);
        x.sign(2, 3);
        fraction("gain with a SIGN", x.gain(2, 3, 0), x.gain(2, 3, 1), 5, 2);
        x.set(1, 9);
        x.set(2, 0);
        fraction("gain of 0", x.gain(2, 3, 0), x.gain(2, 3, 1), 0, 1);
        for (int bad : BAD_DAYS) {
            Due.is("gain day " + bad, x.gain(bad, 0, 0), NO);
        }
        for (int bad : BAD_WEATHERS) {
            Due.is("gain weather " + bad, x.gain(0, bad, 0), NO);
        }
        for (int bad : BAD_PARTS) {
            Due.is("gain part " + bad, x.gain(0, 0, bad), NO);
        }
        x.say(0, 2, 3);
        Due.is("gain of what is said", x.gain(2, 3, 0), NO);
        x.morning(1);
        Due.is("gain of a DAY that is over", x.gain(0, 0, 0), NO);
        Due.is("gain of NOW", x.gain(1, 0, 1) > 0 ? 1 : 0, 1);
    }

    private static void waited() {
        SaidWeather x = new SaidWeather();
        x.sayer(0, 0);
        x.worth(7, 99);
        Places.weights(x, 7, 1, 2, 3, 0);
        // EARN 9, all 12 with a SIGN: signs 0, 1, 2 bring weights 7, 8, 9 of 12
        // gains by 12: 63-10-12 = 41, 72-8-12 = 52, 81-6-12 = 63; (41 + 2*52 + 3*63) by 72
        fraction("waited(7)", x.waited(7, 0), x.waited(7, 1), 167, 36);
        x.weigh(8, 0, 9);
        fraction("whatever the next DAY weighs", x.waited(7, 0), x.waited(7, 1), 167, 36);
        x.say(0, 7, 2);
        // with sign 2: the best of the rest is 1, 18-20-12 below 0: none is said
        fraction("waited, one is said", x.waited(7, 0), x.waited(7, 1), 145, 72);
        x.say(0, 7, 0);
        x.say(0, 7, 1);
        x.say(0, 7, 3);
        fraction("waited, all is said", x.waited(7, 0), x.waited(7, 1), 0, 1);
        for (int bad : BAD_DAYS) {
            Due.is("waited day " + bad, x.waited(bad, 0), NO);
        }
        for (int bad : BAD_PARTS) {
            Due.is("waited part " + bad, x.waited(8, bad), NO);
        }
        Due.is("not above NOW and 3", x.waited(3, 1), NO);
        Due.is("above NOW and 3", x.waited(4, 1) > 0 ? 1 : 0, 1);
        x.sign(9, 0);
        Due.is("it has a SIGN", x.waited(9, 0), NO);
        x.sign(9, -1);
        Due.is("it has none", x.waited(9, 1) > 0 ? 1 : 0, 1);
        x.morning(3);
        x.sign(6, -1);
        Due.is("not above NOW and 3", x.waited(6, 0), NO);
        Due.is("above NOW and 3", x.waited(7, 0), 0);
        Due.is("over", x.waited(0, 0), NO);
    }

    private static void waitedWithNothingWorthSaying() {
        SaidWeather x = new SaidWeather();
        x.set(1, 99);
        x.set(2, 99);
        fraction("none is said (0)", x.waited(10, 0), x.waited(10, 1), 0, 1);
        x.set(1, 2);
        x.set(2, 1);
        x.set(3, 0);
        x.worth(10, 99);
        Places.weights(x, 10, 4, 1, 1, 0);
        // SIGNS 0: weather 0 whatever the sign is, 9*4-2*2-6 = 26 by 6
        fraction("SIGNS 0", x.waited(10, 0), x.waited(10, 1), 13, 3);
    }

    private static void best() {
        SaidWeather x = new SaidWeather();
        x.sayer(0, 0);
        Due.is("best(0)", x.best(0), 0);
        Due.is("best(1)", x.best(1), 0);
        x.worth(12, 99);
        x.worth(14, 99);
        Due.is("the first DAY of several", x.best(0), 12);
        Due.is("the first WEATHER of several", x.best(1), 0);
        x.say(0, 12, 0);
        Due.is("not said yet", x.best(1), 1);
        x.sign(14, 2);
        Due.is("the greatest, DAY", x.best(0), 14);
        Due.is("the greatest, WEATHER", x.best(1), 2);
        Places.weights(x, 5, 0, 0, 0, 1);
        x.worth(5, 60);
        // 6-1 = 5 by 1 against (9*7-2*3-10) by 10 = 4.7
        Due.is("fractions are compared, DAY", x.best(0), 5);
        Due.is("fractions are compared, WEATHER", x.best(1), 3);
        x.morning(6);
        Due.is("from NOW on", x.best(0), 14);
        for (int bad : new int[] {-1, 2, MIN, MAX}) {
            Due.is("best(" + bad + ")", x.best(bad), -1);
        }
        x.morning(13);
        for (int weather = 0; weather < 4; weather++) {
            Due.is("DAY 19 is left", x.best(0), 19);
            x.say(0, 19, x.best(1));
        }
        Due.is("all is said", x.best(0), -3);
        Due.is("all is said", x.best(1), -3);
        Due.is("BAD ahead of NONE", x.best(2), -1);
        SaidWeather y = new SaidWeather();
        y.set(1, 99);
        y.weigh(3, 0, 2);
        Due.is("the greatest of those below 0, DAY", y.best(0), 3);
        Due.is("the greatest of those below 0, WEATHER", y.best(1), 0);
    }

    private static void whole() {
        SaidWeather x = new SaidWeather();
        x.sayer(0, 0);
        x.worth(2, 99);
        Places.weights(x, 2, 1, 2, 3, 0);
        // EARN 9 once, FINE 2 thrice, PRICE 1 four times
        fraction("whole", x.whole(2, 0), x.whole(2, 1), -1, 1);
        x.say(0, 2, 3);
        fraction("three of them", x.whole(2, 0), x.whole(2, 1), 2, 1);
        x.say(0, 2, 0);
        // 2/3 and 5/2
        fraction("two of them", x.whole(2, 0), x.whole(2, 1), 19, 6);
        x.say(0, 2, 1);
        fraction("one of them", x.whole(2, 0), x.whole(2, 1), 5, 2);
        x.say(0, 2, 2);
        fraction("none of them", x.whole(2, 0), x.whole(2, 1), 0, 1);
        for (int bad : BAD_DAYS) {
            Due.is("whole day " + bad, x.whole(bad, 0), NO);
        }
        for (int bad : BAD_PARTS) {
            Due.is("whole part " + bad, x.whole(0, bad), NO);
        }
        x.morning(1);
        Due.is("over", x.whole(0, 0), NO);
        Due.is("NOW", x.whole(1, 1), 1);
    }

    private static void owed() {
        SaidWeather x = new SaidWeather();
        x.sayer(0, 0);
        x.sayer(0, 0);
        Due.is("owed(0)", x.owed(0), 0);
        x.purse(0, -5);
        Due.is("below 0", x.owed(0), -5000);
        x.purse(0, 1);
        Places.weights(x, 2, 1, 1, 1, 0);
        x.worth(2, 99);
        x.say(0, 2, 0);
        // 1000 * (9 - 4) by 3
        Due.is("one saying", x.owed(0), 1666);
        x.say(0, 2, 1);
        Due.is("each is cut", x.owed(0), -1000 + 1666 + 1666);
        x.say(0, 3, 1);
        // 1000 * (1 - 6) by 4
        Due.is("one that costs", x.owed(0), -2000 + 3332 - 1250);
        Places.weights(x, 3, 1, 1, 1, 0);
        x.set(1, 3);
        // 1000 * (1 - 6) by 3, cut towards 0; 1000 * (9 - 6) by 3
        Due.is("cut towards 0", x.owed(0), -2000 + 2000 - 1666);
        x.sign(3, 1);
        // 1000 * (7 - 6) by 9
        Due.is("with a SIGN", x.owed(0), 111);
        Due.is("another", x.owed(1), 0);
        x.say(1, 0, 0);
        x.say(1, 0, 1);
        x.say(1, 0, 2);
        x.say(1, 0, 3);
        Due.is("four of one DAY", x.owed(1), -4000 + 4 * -2000);
        x.morning(1);
        Due.is("over: by PURSE alone", x.owed(1), -4000 + 1000 - 9000);
        Places.weights(x, 9, 0, 0, 1, 0);
        x.say(1, 9, 2);
        Due.is("a WEIGHT of 1 in all", x.owed(1), -13000 + 1000);
        for (int bad : new int[] {-1, 2, MIN, MAX}) {
            Due.is("owed(" + bad + ")", x.owed(bad), NO);
        }
    }

    private static void believed() {
        SaidWeather x = new SaidWeather();
        x.sayer(0, 0);
        x.sayer(0, 0);
        fraction("without any", x.believed(0, 0), x.believed(0, 1), 0, 1);
        for (int day = 0; day < 6; day++) {
            Places.weights(x, day, 0, 5, 0, 0);
            x.say(0, day, day == 1 || day == 4 ? 1 : 2);
        }
        fraction("none is over", x.believed(0, 0), x.believed(0, 1), 0, 1);
        int[][] want = {{0, 1}, {1, 2}, {1, 3}, {1, 4}, {2, 5}, {1, 3}};
        for (int day = 0; day < 6; day++) {
            x.morning(1);
            fraction("believed", x.believed(0, 0), x.believed(0, 1), want[day][0], want[day][1]);
        }
        for (int bad : new int[] {-1, 2, MIN, MAX}) {
            Due.is("believed(" + bad + ", 0)", x.believed(bad, 0), -1);
            Due.is("believed(0, " + bad + ")", x.believed(0, bad), -1);
        }
    }

    private static void believedOfOne() {
        SaidWeather x = new SaidWeather();
        x.sayer(0, 0);
        Places.weights(x, 0, 0, 5, 0, 0);
        Places.weights(x, 1, 0, 5, 0, 0);
        x.say(0, 0, 1);
        x.morning(1);
        fraction("one of one", x.believed(0, 0), x.believed(0, 1), 1, 1);
        x.say(0, 1, 1);
        x.morning(1);
        fraction("two of two", x.believed(0, 0), x.believed(0, 1), 1, 1);
    }

    private static void whom() {
        SaidWeather x = new SaidWeather();
        Due.is("no SAYERS", x.whom(), -3);
        for (int i = 0; i < 4; i++) {
            x.sayer(0, 0);
        }
        Due.is("of several the least", x.whom(), 0);
        for (int day = 0; day < 20; day++) {
            Places.weights(x, day, 0, 5, 0, 0);
        }
        x.say(0, 0, 0);
        x.say(3, 0, 2);
        x.morning(1);
        Due.is("none right, the least", x.whom(), 0);
        x.say(1, 1, 1);
        x.say(1, 1, 0);
        x.morning(1);
        Due.is("one of two", x.whom(), 1);
        x.say(3, 2, 1);
        x.morning(1);
        Due.is("one of two each, the least", x.whom(), 1);
        x.say(3, 3, 1);
        x.morning(1);
        Due.is("two of three", x.whom(), 3);
        x.say(2, 4, 1);
        x.morning(1);
        Due.is("one of one", x.whom(), 2);
    }

    private static void open() {
        SaidWeather x = new SaidWeather();
        x.sayer(0, 0);
        x.say(0, 19, 0);
        x.say(0, 3, 2);
        x.say(0, 3, 3);
        Due.is("open()", x.open(), 0xFFFFF & ~(1 << 19 | 1 << 3));
        x.morning(2);
        Due.is("from NOW on", x.open(), 0xFFFFF & ~(1 << 19 | 1 << 3 | 3));
        x.morning(17);
        Due.is("nothing but what is said", x.open(), 0);
        x.morning(1);
        Due.is("in the end", x.open(), 0);
    }

    private static void seed() {
        SaidWeather x = new SaidWeather();
        Due.is("1 at first", x.seed(MIN), 1);
        Due.is("any int", x.seed(MAX), MIN);
        Due.is("any int", x.seed(-1), MAX);
        Due.is("below 0", x.seed(0), -1);
        x.morning(1);
        int z = 12345;
        Due.is("z goes on twice in a morning", x.seed(0), z * 1103515245 + 12345);
    }
}
