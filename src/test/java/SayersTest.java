/** Promises 9 to 18: sayers, sayings, mornings. */
public final class SayersTest {
    private static final int MIN = Integer.MIN_VALUE, MAX = Integer.MAX_VALUE;
    private static final int SAYER = 0, EARLY = 1, LATE = 2, SURE = 3, ALL = 4, TOLD = 5;

    public static void main(String[] args) {
        sayer();
        sayerOf();
        mind();
        purse();
        say();
        sayFull();
        sayingOf();
        wouldOfEachKind();
        wouldOfTheSure();
        wouldWithoutRoom();
        wouldRefuses();
        morningOfOne();
        morningInOrder();
        morningDraws();
        morningRefuses();
        mornings();
        owner();
        Due.end();
    }

    private static void sayer() {
        SaidWeather x = new SaidWeather();
        for (int bad : new int[] {-1, 6, MIN, MAX}) {
            Due.is("sayer(" + bad + ", 0)", x.sayer(bad, 0), -1);
        }
        for (int bad : new int[] {-1, 10, MIN, MAX}) {
            Due.is("sayer(0, " + bad + ")", x.sayer(0, bad), -1);
        }
        for (int i = 0; i < 5; i++) {
            Due.is("sayer(" + (i + 1) + ", 9)", x.sayer(i + 1, 9), i);
        }
        Due.is("a sixth", x.sayer(0, 0), -2);
        Due.is("BAD ahead of FULL", x.sayer(6, 0), -1);
        Due.is("many(0)", x.many(0), 5);
    }

    private static void sayerOf() {
        SaidWeather x = new SaidWeather();
        x.sayer(SURE, 4);
        x.sayer(ALL, 9);
        x.say(1, 3, 2);
        x.say(0, 3, 1);
        x.say(1, 4, 1);
        int[][] want = {{SURE, 4, 99999, 1}, {ALL, 9, 99998, 2}};
        for (int i = 0; i < 2; i++) {
            for (int what = 0; what < 4; what++) {
                Due.is("sayerOf(" + i + ", " + what + ")", x.sayerOf(i, what), want[i][what]);
            }
        }
        for (int bad : new int[] {-1, 2, 5, MIN, MAX}) {
            Due.is("sayerOf(" + bad + ", 0)", x.sayerOf(bad, 0), -1);
        }
        for (int bad : new int[] {-1, 4, MIN, MAX}) {
            Due.is("sayerOf(0, " + bad + ")", x.sayerOf(0, bad), -1);
        }
    }

    private static void mind() {
        SaidWeather x = new SaidWeather();
        x.sayer(SAYER, 1);
        x.purse(0, 77);
        x.say(0, 0, 0);
        Due.is("mind(0, 5, 9)", x.mind(0, 5, 9), 0);
        Due.is("mind(0, 4, 0)", x.mind(0, 4, 0), 5);
        Due.is("KIND", x.sayerOf(0, 0), 4);
        Due.is("A", x.sayerOf(0, 1), 0);
        Due.is("PURSE stays", x.sayerOf(0, 2), 100076);
        Due.is("SAYINGS stay", x.sayerOf(0, 3), 1);
        Due.is("the same again", x.mind(0, 4, 0), 4);
        for (int bad : new int[] {-1, 10, MIN, MAX}) {
            Due.is("mind(" + bad + ", 0, 0)", x.mind(bad, 0, 0), -1);
            Due.is("mind(0, " + bad + ", 0)", x.mind(0, bad, 0), -1);
            Due.is("mind(0, 0, " + bad + ")", x.mind(0, 0, bad), -1);
        }
        Due.is("mind(1, 0, 0)", x.mind(1, 0, 0), -1);
        Due.is("mind(0, 6, 0)", x.mind(0, 6, 0), -1);
        Due.is("KIND", x.sayerOf(0, 0), 4);
    }

    private static void purse() {
        SaidWeather x = new SaidWeather();
        x.sayer(SAYER, 1);
        Due.is("purse(0, 9999)", x.purse(0, 9999), 100000);
        Due.is("purse(0, -9999)", x.purse(0, -9999), 109999);
        Due.is("purse(0, 3)", x.purse(0, 3), 90001);
        for (int bad : new int[] {10000, -10000, MIN, MAX}) {
            Due.is("purse(0, " + bad + ")", x.purse(0, bad), -1);
        }
        for (int bad : new int[] {-1, 1, MIN, MAX}) {
            Due.is("purse(" + bad + ", 0)", x.purse(bad, 0), -1);
        }
        Due.is("PURSE", x.sayerOf(0, 2), 100003);
        x.purse(0, -9999);
        x.set(2, 99);
        x.say(0, 0, 0);
        Due.is("a PURSE may be lower still", x.sayerOf(0, 2), 100000 - 9999 - 99);
    }

    private static void say() {
        SaidWeather x = new SaidWeather();
        x.sayer(LATE, 0);
        x.sayer(LATE, 0);
        x.set(2, 7);
        Due.is("say(0, 5, 2)", x.say(0, 5, 2), 0);
        Due.is("PRICE is paid", x.sayerOf(0, 2), 99993);
        Due.is("say(1, 5, 3)", x.say(1, 5, 3), 1);
        Due.is("said by another", x.say(1, 5, 2), -4);
        Due.is("said by himself", x.say(0, 5, 2), -4);
        Due.is("nothing is paid for that", x.sayerOf(0, 2), 99993);
        Due.is("say(0, 19, 0)", x.say(0, 19, 0), 2);
        Due.is("of NOW", x.say(0, 0, 3), 3);
        for (int bad : new int[] {-1, 20, MIN, MAX}) {
            Due.is("sayer " + bad, x.say(bad, 1, 1), -1);
            Due.is("day " + bad, x.say(0, bad, 1), -1);
            Due.is("weather " + bad, x.say(0, 1, bad), -1);
        }
        Due.is("sayer 2", x.say(2, 1, 1), -1);
        Due.is("weather 4", x.say(0, 1, 4), -1);
        Due.is("BAD ahead of STATE", x.say(2, 5, 2), -1);
        x.mind(0, 0, 0);
        x.mind(1, 0, 0);
        x.morning(2);
        Due.is("over", x.say(0, 1, 0), -1);
        Due.is("over and said", x.say(0, 0, 3), -1);
        Due.is("NOW again", x.say(0, 2, 0), 4);
    }

    private static void sayFull() {
        SaidWeather x = new SaidWeather();
        x.sayer(SAYER, 0);
        for (int i = 0; i < 40; i++) {
            Due.is("say", x.say(0, i / 4, i % 4), i);
        }
        Due.is("a 41st", x.say(0, 10, 0), -2);
        Due.is("STATE ahead of FULL", x.say(0, 9, 3), -4);
        Due.is("BAD ahead of both", x.say(1, 9, 3), -1);
        Due.is("PURSE", x.sayerOf(0, 2), 99960);
        Due.is("many(1)", x.many(1), 40);
        x.morning(5);
        Due.is("no room comes back", x.say(0, 15, 0), -2);
        Due.is("one who said all of it", x.owner(4), 0);
        x.morning(10);
        Due.is("nobody, of forty SAYINGS", x.owner(14), -3);
    }

    private static void sayingOf() {
        SaidWeather x = new SaidWeather();
        x.sayer(SAYER, 0);
        x.sayer(SAYER, 0);
        Places.certain(x, 0, 2);
        x.say(1, 0, 2);
        x.say(0, 0, 1);
        x.say(1, 1, 3);
        Due.is("not over", x.sayingOf(0, 3), 0);
        x.morning(1);
        int[][] want = {{1, 0, 2, 1}, {0, 0, 1, 2}, {1, 1, 3, 0}};
        for (int i = 0; i < 3; i++) {
            for (int what = 0; what < 4; what++) {
                Due.is("sayingOf(" + i + ", " + what + ")", x.sayingOf(i, what), want[i][what]);
            }
        }
        for (int bad : new int[] {-1, 3, 40, MIN, MAX}) {
            Due.is("sayingOf(" + bad + ", 0)", x.sayingOf(bad, 0), -1);
        }
        for (int bad : new int[] {-1, 4, MIN, MAX}) {
            Due.is("sayingOf(0, " + bad + ")", x.sayingOf(0, bad), -1);
        }
    }

    private static void would(SaidWeather x, int sayer, int day, int weather, int count) {
        String who = "would of " + sayer;
        Due.is(who + ": the DAY", x.would(sayer, 0), day);
        Due.is(who + ": the WEATHER", x.would(sayer, 1), weather);
        Due.is(who + ": how many", x.would(sayer, 2), count);
    }

    private static void wouldOfEachKind() {
        SaidWeather x = new SaidWeather();
        x.sayer(SAYER, 5);
        would(x, 0, -3, -3, 0);
        x.mind(0, EARLY, 5);
        would(x, 0, 5, 0, 1);
        x.sign(5, 3);
        would(x, 0, 5, 3, 1);
        x.say(0, 5, 0);
        would(x, 0, 4, 0, 1);
        x.mind(0, EARLY, 0);
        would(x, 0, 0, 0, 1);
        x.say(0, 0, 3);
        would(x, 0, -3, -3, 0);
        x.mind(0, EARLY, 9);
        would(x, 0, 9, 0, 1);
        x.mind(0, ALL, 5);
        would(x, 0, 4, 0, 4);
        x.sign(4, 2);
        would(x, 0, 4, 0, 4);
        x.mind(0, ALL, 0);
        would(x, 0, -3, -3, 0);
        x.mind(0, LATE, 0);
        would(x, 0, 0, 0, 1);
        x.sign(0, 3);
        would(x, 0, -3, -3, 0);
        x.sign(0, 1);
        would(x, 0, 0, 1, 1);
        x.mind(0, SURE, 7);
        would(x, 0, 0, 1, 1);
        x.mind(0, SURE, 8);
        would(x, 0, -3, -3, 0);
        x.mind(0, SURE, 0);
        would(x, 0, 0, 1, 1);
        x.say(0, 0, 1);
        would(x, 0, -3, -3, 0);
        x.mind(0, TOLD, 6);
        would(x, 0, 0, 2, 1);
        x.mind(0, TOLD, 9);
        would(x, 0, -3, -3, 0);
        x.mind(0, TOLD, 8);
        would(x, 0, 0, 0, 1);
        x.mind(0, SAYER, 0);
        x.morning(15);
        x.mind(0, EARLY, 9);
        would(x, 0, 19, x.dayOf(19, 4), 1);
        x.mind(0, SAYER, 9);
        x.morning(5);
        for (int kind = 0; kind < 6; kind++) {
            x.mind(0, kind, 0);
            would(x, 0, -3, -3, 0);
        }
    }

    private static void wouldOfTheSure() {
        SaidWeather x = new SaidWeather();
        x.sayer(SAYER, 0);
        x.morning(3);
        Places.certain(x, 0, 1);
        int[] weights = {2, 5, 1, 2};
        for (int weather = 0; weather < 4; weather++) {
            x.weigh(3, weather, weights[weather]);
        }
        for (int a = 0; a < 10; a++) {
            x.mind(0, SURE, a);
            if (a <= 5) {
                would(x, 0, 3, 1, 1);
            } else {
                would(x, 0, -3, -3, 0);
            }
        }
        // 50 against 6 times 9, and against 5 times 9
        x.weigh(3, 0, 1);
        x.mind(0, SURE, 6);
        would(x, 0, -3, -3, 0);
        x.mind(0, SURE, 5);
        would(x, 0, 3, 1, 1);
    }

    private static void wouldWithoutRoom() {
        SaidWeather x = new SaidWeather();
        x.sayer(SAYER, 0);
        for (int i = 0; i < 36; i++) {
            x.say(0, 11 + i / 4, i % 4);
        }
        x.mind(0, ALL, 9);
        for (int left = 4; left >= 1; left--) {
            would(x, 0, 9, 0, left);
            x.say(0, 10, left - 1);
        }
        would(x, 0, -3, -3, 0);
        for (int kind = 0; kind < 6; kind++) {
            x.mind(0, kind, 1);
            would(x, 0, -3, -3, 0);
        }
    }

    private static void wouldRefuses() {
        SaidWeather x = new SaidWeather();
        x.sayer(SAYER, 0);
        for (int bad : new int[] {-1, 1, MIN, MAX}) {
            Due.is("would(" + bad + ", 0)", x.would(bad, 0), -1);
        }
        for (int bad : new int[] {-1, 3, MIN, MAX}) {
            Due.is("would(0, " + bad + ")", x.would(0, bad), -1);
        }
    }

    private static void morningOfOne() {
        SaidWeather x = new SaidWeather();
        x.worth(0, 55);
        Places.certain(x, 0, 1);
        for (int i = 0; i < 4; i++) {
            x.sayer(SAYER, 0);
        }
        x.set(1, 20);
        x.say(0, 0, 0);
        x.say(0, 0, 2);
        x.say(1, 0, 1);
        x.say(1, 0, 3);
        x.say(2, 1, 1);
        Due.is("morning(0)", x.morning(0), 0);
        Due.is("nothing came", x.dayOf(0, 2), -9);
        Due.is("morning(1)", x.morning(1), 1);
        Due.is("what it was", x.dayOf(0, 2), 1);
        Due.is("FINE for each", x.sayerOf(0, 2), 100000 - 2 - 40);
        Due.is("EARN and FINE", x.sayerOf(1, 2), 100000 - 2 + 5 - 20);
        Due.is("another DAY", x.sayerOf(2, 2), 99999);
        Due.is("nothing said", x.sayerOf(3, 2), 100000);
    }

    private static void morningInOrder() {
        SaidWeather x = new SaidWeather();
        x.sayer(LATE, 0);
        x.sayer(LATE, 0);
        x.sayer(ALL, 1);
        x.sayer(EARLY, 1);
        x.sayer(TOLD, 3);
        x.morning(1);
        int[][] want = {{0, 0, 0}, {2, 1, 0}, {2, 1, 1}, {2, 1, 2}, {2, 1, 3}, {4, 0, 3}};
        Due.is("many(1)", x.many(1), want.length);
        for (int i = 0; i < want.length; i++) {
            for (int what = 0; what < 3; what++) {
                Due.is("sayingOf(" + i + ", " + what + ")", x.sayingOf(i, what), want[i][what]);
            }
        }
        Due.is("PRICE of four", x.sayerOf(2, 2), 99996);
        SaidWeather y = new SaidWeather();
        y.sayer(SAYER, 0);
        for (int i = 0; i < 38; i++) {
            y.say(0, 10 + i / 4, i % 4);
        }
        y.sayer(ALL, 3);
        y.sayer(TOLD, 0);
        y.morning(1);
        Due.is("as far as there is room", y.sayerOf(1, 3), 2);
        Due.is("the WEATHERS", y.dayOf(3, 5), 3);
        Due.is("none is left", y.sayerOf(2, 3), 0);
    }

    /** The first of weights up to it together, of z as the document has it go on. */
    private static int drawn(int z, int[] weights) {
        int all = weights[0] + weights[1] + weights[2] + weights[3];
        int mark = (z >>> 16) % all;
        int weather = 0;
        for (int together = weights[0]; mark >= together; together += weights[weather]) {
            weather++;
        }
        return weather;
    }

    private static void morningDraws() {
        for (int seed = -40; seed < 40; seed++) {
            SaidWeather x = new SaidWeather();
            x.seed(seed * 77777777);
            int[] first = {3, 0, 9, 1};
            int[] fourth = {1, 5, 0, 2};
            for (int weather = 0; weather < 4; weather++) {
                x.weigh(0, weather, first[weather]);
                x.weigh(4, weather, fourth[weather]);
            }
            x.sign(0, 1);
            x.morning(1);
            int z = seed * 77777777 * 1103515245 + 12345;
            first[1] += 6;
            Due.is("the WEATHER by WEIGHTS with SIGNS", x.dayOf(0, 2), drawn(z, first));
            z = z * 1103515245 + 12345;
            Due.is("the SIGN of DAY 4", x.dayOf(4, 1), drawn(z, fourth));
            Due.is("no SIGN of DAY 3", x.dayOf(3, 1), -9);
            Due.is("no SIGN of DAY 5", x.dayOf(5, 1), -9);
            x.sign(5, seed & 3);
            x.morning(1);
            Due.is("a SIGN that was there stays", x.dayOf(5, 1), seed & 3);
            z = z * 1103515245 + 12345;
            Due.is("z did not go on for it", x.seed(0), z);
        }
        SaidWeather x = new SaidWeather();
        x.morning(16);
        Due.is("the last SIGN", x.dayOf(19, 1) >= 0 ? 1 : 0, 1);
        int z = x.seed(1);
        x.seed(z);
        x.morning(1);
        Due.is("no SIGN beyond", x.seed(1), z * 1103515245 + 12345);
    }

    private static void morningRefuses() {
        SaidWeather x = new SaidWeather();
        for (int bad : new int[] {-1, 21, MIN, MAX}) {
            Due.is("morning(" + bad + ")", x.morning(bad), -1);
        }
        Due.is("now()", x.now(), 0);
    }

    private static void mornings() {
        SaidWeather x = new SaidWeather();
        x.sayer(EARLY, 2);
        Due.is("morning(15)", x.morning(15), 15);
        Due.is("now()", x.now(), 15);
        Due.is("many(2)", x.many(2), 15);
        Due.is("as far as there are such", x.morning(20), 20);
        int z = x.seed(7);
        x.seed(z);
        Due.is("none is left", x.morning(20), 20);
        Due.is("z stays", x.seed(7), z);
        Due.is("morning(0)", x.morning(0), 20);
        for (int day = 0; day < 20; day++) {
            Due.is("every DAY was", x.dayOf(day, 2) >= 0 ? 1 : 0, 1);
        }
        SaidWeather one = new SaidWeather();
        one.sayer(EARLY, 2);
        for (int i = 1; i <= 20; i++) {
            Due.is("one by one", one.morning(1), i);
        }
        one.seed(7);
        Due.same("one by one as all at once", Look.at(one), Look.at(x));
    }

    private static int firstSayingOwns() {
        SaidWeather x = new SaidWeather();
        x.sayer(SAYER, 0);
        Places.certain(x, 0, 3);
        x.say(0, 0, 3);
        x.morning(1);
        return x.owner(0);
    }

    private static void owner() {
        SaidWeather x = new SaidWeather();
        x.sayer(SAYER, 0);
        x.sayer(SAYER, 0);
        Places.certain(x, 0, 3);
        x.say(0, 0, 2);
        x.say(1, 0, 3);
        x.say(0, 1, 0);
        Due.is("not over", x.owner(0), -3);
        x.weigh(1, 0, 0);
        x.morning(2);
        Due.is("who said it", x.owner(0), 1);
        Due.is("the first SAYING of all", firstSayingOwns(), 0);
        Due.is("nobody", x.owner(1), -3);
        Due.is("not over", x.owner(2), -3);
        for (int bad : new int[] {-1, 20, MIN, MAX}) {
            Due.is("owner(" + bad + ")", x.owner(bad), -1);
        }
    }
}
