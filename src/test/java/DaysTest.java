/** Promises 1 (a new object), 2 (feed) and 4 to 8 (days and laws). */
public final class DaysTest {
    private static final int MIN = Integer.MIN_VALUE, MAX = Integer.MAX_VALUE;

    public static void main(String[] args) {
        newObject();
        feed();
        worth();
        weigh();
        sign();
        dayOf();
        laws();
        Due.end();
    }

    private static void newObject() {
        SaidWeather x = new SaidWeather();
        for (int what = 0; what <= 5; what++) {
            Due.is("new: many(" + what + ")", x.many(what), 0);
        }
        Due.is("new: now()", x.now(), 0);
        Due.is("new: again()", x.again(), -3);
        Due.is("new: trace(0)", x.trace(0), -3);
        Due.is("new: whom()", x.whom(), -3);
        Due.is("new: judge()", x.judge(), 0);
        Due.is("new: seed(5)", x.seed(5), 1);
        Due.is("new: open()", x.open(), (1 << 20) - 1);
        for (int day = 0; day < 20; day++) {
            int[] want = {10, -9, -9, 1, 0, 0, 1, 1, 1, 1};
            for (int what = 0; what < 10; what++) {
                Due.is("new: dayOf(" + day + ", " + what + ")", x.dayOf(day, what), want[what]);
            }
            Due.is("new: owner(" + day + ")", x.owner(day), -3);
        }
        for (int i = 0; i < 4; i++) {
            Due.is("new: item", x.item(i, 0, 0), -11);
            Due.is("new: taken", x.taken(i, 0), -11);
            Due.is("new: taken as row", x.taken(i, 12), -11);
        }
        Due.is("new: sayerOf(0, 0)", x.sayerOf(0, 0), -1);
        Due.is("new: sayingOf(0, 0)", x.sayingOf(0, 0), -1);
        Due.is("new: row(0, 0)", x.row(0, 0), MIN);
    }

    private static void feed() {
        SaidWeather x = new SaidWeather();
        for (int n : new int[] {0, -1, 9, MIN, MAX}) {
            Due.is("feed(0, " + n + ")", x.feed(0, n), -1);
        }
        for (int i = 1; i <= 29; i++) {
            Due.is("feed 8", x.feed(-1L, 8), 8 * i);
        }
        Due.is("feed 7", x.feed(0, 7), 239);
        Due.is("feed 2 of 239", x.feed(0, 2), -2);
        Due.is("BAD ahead of FULL", x.feed(0, 9), -1);
        Due.is("many(4)", x.many(4), 239);
        Due.is("feed 1", x.feed(0, 1), 240);
        Due.is("feed 1 of 240", x.feed(0, 1), -2);
        Due.is("clerk() of odd bytes", x.clerk(), -100);
        Due.is("the tape is used up", x.many(4), 0);
        Due.is("lowest first", x.feed(0x3b39_776f_6eL, 5), 5);
        Due.is("now9;", x.clerk(), 0);
        Due.is("now()", x.now(), 9);
        Due.is("only n bytes count", x.feed(0x4141_4141_3b38_776fL << 8 | 'n', 5), 5);
        Due.is("now8;", x.clerk(), 0);
        Due.is("now()", x.now(), 8);
    }

    private static void worth() {
        SaidWeather x = new SaidWeather();
        Due.is("worth(0, 99)", x.worth(0, 99), 10);
        Due.is("worth(0, 0)", x.worth(0, 0), 99);
        Due.is("worth(0, 5)", x.worth(0, 5), 0);
        Due.is("worth(19, 1)", x.worth(19, 1), 10);
        for (int day : new int[] {-1, 20, MIN, MAX}) {
            Due.is("worth(" + day + ", 1)", x.worth(day, 1), -1);
        }
        for (int v : new int[] {-1, 100, MIN, MAX}) {
            Due.is("worth(0, " + v + ")", x.worth(0, v), -1);
        }
        Due.is("dayOf(0, 0)", x.dayOf(0, 0), 5);
        Due.is("dayOf(19, 0)", x.dayOf(19, 0), 1);
        Due.is("dayOf(1, 0)", x.dayOf(1, 0), 10);
        x.morning(3);
        Due.is("worth of a day that is over", x.worth(0, 7), 5);
        Due.is("dayOf(0, 0)", x.dayOf(0, 0), 7);
    }

    private static void weigh() {
        SaidWeather x = new SaidWeather();
        Due.is("weigh(3, 1, 9)", x.weigh(3, 1, 9), 1);
        Due.is("weigh(3, 1, 0)", x.weigh(3, 1, 0), 9);
        Due.is("weigh(3, 0, 0)", x.weigh(3, 0, 0), 1);
        Due.is("weigh(3, 3, 0)", x.weigh(3, 3, 0), 1);
        Due.is("all would be 0", x.weigh(3, 2, 0), -4);
        Due.is("it is as it was", x.dayOf(3, 8), 1);
        x.sign(3, 2);
        Due.is("a sign does not help", x.weigh(3, 2, 0), -4);
        Due.is("weigh(3, 2, 2)", x.weigh(3, 2, 2), 1);
        Due.is("with SIGNS", x.dayOf(3, 8), 8);
        Due.is("without SIGNS", x.weigh(3, 2, 1), 2);
        Due.is("a WEIGHT of 0 stays 0", x.weigh(3, 0, 0), 0);
        Due.is("another day", x.weigh(4, 2, 0), 1);
        for (int bad : new int[] {-1, MIN, MAX, 20}) {
            Due.is("weigh day " + bad, x.weigh(bad, 0, 1), -1);
            Due.is("weigh weather " + bad, x.weigh(0, bad, 1), -1);
            Due.is("weigh v " + bad, x.weigh(0, 0, bad), -1);
        }
        Due.is("weigh weather 4", x.weigh(0, 4, 1), -1);
        Due.is("weigh v 10", x.weigh(0, 0, 10), -1);
        Due.is("BAD ahead of STATE", x.weigh(3, 4, 0), -1);
    }

    private static void sign() {
        SaidWeather x = new SaidWeather();
        Due.is("sign(2, 3)", x.sign(2, 3), -9);
        Due.is("sign(2, 0)", x.sign(2, 0), 3);
        Due.is("sign(2, -1)", x.sign(2, -1), 0);
        Due.is("sign(2, -1) again", x.sign(2, -1), -9);
        for (int bad : new int[] {-2, MIN, MAX, 20}) {
            Due.is("sign day " + bad, x.sign(bad, 0), -1);
            Due.is("sign weather " + bad, x.sign(0, bad), -1);
        }
        Due.is("sign day -1", x.sign(-1, 0), -1);
        Due.is("sign weather 4", x.sign(0, 4), -1);
        Due.is("dayOf(0, 1)", x.dayOf(0, 1), -9);
    }

    private static void dayOf() {
        SaidWeather x = new SaidWeather();
        x.sayer(0, 0);
        x.worth(6, 59);
        x.weigh(6, 0, 3);
        x.weigh(6, 2, 8);
        x.weigh(6, 3, 8);
        Due.is("LIKELIEST, of several the least", x.dayOf(6, 4), 2);
        x.sign(6, 0);
        Due.is("LIKELIEST with SIGNS", x.dayOf(6, 4), 0);
        x.set(3, 5);
        Due.is("LIKELIEST of three alike", x.dayOf(6, 4), 0);
        x.set(3, 4);
        Due.is("LIKELIEST beside a weak SIGN", x.dayOf(6, 4), 2);
        x.say(0, 6, 3);
        x.say(0, 6, 1);
        x.set(0, 33);
        int[] want = {59, 0, -9, 19, 2, 10, 7, 1, 8, 8};
        for (int what = 0; what < 10; what++) {
            Due.is("dayOf(6, " + what + ")", x.dayOf(6, what), want[what]);
        }
        for (int bad : new int[] {-1, 10, 20, MIN, MAX, MAX - 3}) {
            Due.is("dayOf(6, " + bad + ")", x.dayOf(6, bad), -1);
        }
        for (int bad : new int[] {-1, 20, MIN, MAX}) {
            Due.is("dayOf(" + bad + ", 0)", x.dayOf(bad, 0), -1);
        }
        x.set(0, 0);
        Due.is("EARN by TENTH 0", x.dayOf(6, 3), 0);
        x.set(0, 100);
        Due.is("EARN by TENTH 100", x.dayOf(6, 3), 59);
        x.weigh(0, 0, 0);
        x.weigh(0, 1, 0);
        x.weigh(0, 2, 0);
        x.morning(1);
        Due.is("what it was", x.dayOf(0, 2), 3);
    }

    private static void laws() {
        SaidWeather x = new SaidWeather();
        int[] first = {10, 2, 1, 6};
        int[] most = {100, 99, 99, 20};
        for (int law = 0; law < 4; law++) {
            Due.is("set(" + law + ", most)", x.set(law, most[law]), first[law]);
            Due.is("set(" + law + ", most + 1)", x.set(law, most[law] + 1), -1);
            Due.is("set(" + law + ", -1)", x.set(law, -1), -1);
            Due.is("set(" + law + ", MIN)", x.set(law, MIN), -1);
            Due.is("set(" + law + ", MAX)", x.set(law, MAX), -1);
            Due.is("set(" + law + ", 0)", x.set(law, 0), most[law]);
            Due.is("set(" + law + ", 3)", x.set(law, 3), 0);
        }
        for (int bad : new int[] {-1, 4, MIN, MAX}) {
            Due.is("set(" + bad + ", 0)", x.set(bad, 0), -1);
        }
    }
}
