/** Edges that the document names of days, mornings, purses, gains, rows and things; promise by promise. */
public final class EdgesTest {
    private static final int MIN = Integer.MIN_VALUE, MAX = Integer.MAX_VALUE;
    private static final long NO = -1000000000000L;
    private static final int SAYS = 0, WAITS = 1, SHARES = 2, TELLS = 3;
    // What z is times, modulo 2 to the 32nd, undoes what a morning's 1103515245 does.
    private static final int UNDO = inverse(1103515245);

    private EdgesTest() {
    }

    public static void main(String[] args) {
        tapeKeepsItsBytes();
        textIsAllByItselfAlone();
        earnIsCut();
        weightsHeldByTheSign();
        likeliestOfAll();
        daysThatAreOverStayOpenToTheHost();
        pursesBeyondTheirRange();
        sayOnTheLastDays();
        earlyUpToTheLastDay();
        toldByEachA();
        sureAtTheEdge();
        allWithLittleRoom();
        roomThatEndsInAMorning();
        drawsAtEachMark();
        signsAtEachMark();
        eachDayIsPaidOnce();
        zWraps();
        theLastSigns();
        theEnd();
        nowToldByAText();
        gainsAtTheEnds();
        waitedAtTheEnds();
        bestIsTheLast();
        owedIsCutTowardsZero();
        owedToEach();
        ownerOfThatDay();
        believedOfMany();
        whomWithoutAny();
        rowsAtTheEnd();
        worthsAtTheEnds();
        narrowedItems();
        shelvesAtFirst();
        sheetsOnShelves();
        actsThatWrap();
        longestTrace();
        keptAtTheEnds();
        Due.end();
    }

    private static int inverse(int odd) {
        int inverse = odd;
        for (int i = 0; i < 5; i++) {
            inverse *= 2 - odd * inverse;
        }
        return inverse;
    }

    // Promises 2, 3

    private static void tapeKeepsItsBytes() {
        SaidWeather x = new SaidWeather();
        Due.is("the lowest first", Due.feed(x, "early 7;"), 8);
        x.feed(0x3b3b3b3b3b3b3b3bL, 0);
        x.feed(0x3b3b3b3b3b3b3b3bL, 9);
        Due.is("a refused feed leaves THE TAPE", x.many(4), 8);
        for (int i = 0; i < 28; i++) {
            x.feed(0x2020202020202020L, 8);
        }
        Due.is("232", x.many(4), 232);
        Due.is("7 more", x.feed(0x20202020202020L, 7), 239);
        Due.is("2 more", x.feed(0x3b3bL, 2), -2);
        Due.is("8 more", x.feed(0x3b3bL, 8), -2);
        Due.is("1 more", x.feed(0x20L, 1), 240);
        Due.is("one beyond", x.feed(0x3bL, 1), -2);
        Due.is("nothing of the refused is on it", x.clerk(), 1);
        Due.is("A", x.sayerOf(0, 1), 7);
        Due.is("used up", x.many(4), 0);
        Due.is("again from the first byte", x.feed(0x3bL, 1), 1);
        Due.is("clerk()", x.clerk(), -100);
        Due.is("used up by a fault, too", x.many(4), 0);
        Due.is("the SAYERS stay", x.many(0), 1);
        Due.is("bytes of the sign bit", x.feed(MIN, 8), 8);
        Due.is("clerk()", x.clerk(), -100);
        Due.is("the eighth byte", x.feed(0x3b20202030776f6eL, 8), 8);
        Due.is("now0   ;", x.clerk(), 0);
        Due.is("nothing beyond the n bytes", x.feed(0xffffff0031776f6eL, 4), 4);
        Due.is("now1", x.clerk(), -104);
        for (int n = 1; n <= 8; n++) {
            x.feed(0x2020202020202020L, n);
        }
        Due.is("36 blanks", x.many(4), 36);
        Due.is("an empty text", x.clerk(), 0);
    }

    private static void textIsAllByItselfAlone() {
        for (String text : new String[] {"", " ", "now 0;", "now 7;now 0;"}) {
            SaidWeather x = Places.full();
            x.set(1, 33);
            int z = x.seed(0);
            x.seed(z);
            x.clerk();
            Due.is("'" + text + "'", Due.read(x, text), 0);
            Due.is("z stays", x.seed(1), z);
            Due.is("FINE stays", x.set(1, 2), 33);
            x.shelf(0, 2, 0);
            Due.same("as a new object", Look.at(x), Look.at(new SaidWeather()));
        }
        SaidWeather x = Places.full();
        Due.is("240 bytes", x.many(4), 240);
        Due.is("one SAYER", x.clerk(), 1);
        Due.is("KIND", x.sayerOf(0, 0), 5);
        Due.is("A", x.sayerOf(0, 1), 9);
        Due.is("PURSE 0", x.sayerOf(0, 2), 100000);
        Due.is("no SAYINGS", x.many(1), 0);
        Due.is("no ROWS", x.many(3), 0);
        Due.is("WORTH as at first", x.dayOf(3, 0), 10);
        Due.is("told on a SHELF of 4", x.taken(0, 0), -11);
    }

    // Promises 4 to 8

    private static void earnIsCut() {
        SaidWeather x = new SaidWeather();
        int[][] cases = {{0, 100, 0}, {99, 0, 0}, {99, 100, 99}, {99, 1, 0}, {99, 99, 98}, {9, 10, 0}, {10, 10, 1},
            {19, 10, 1}, {99, 10, 9}, {1, 99, 0}, {1, 100, 1}, {50, 1, 0}, {50, 2, 1}, {3, 66, 1}, {3, 67, 2}};
        for (int[] c : cases) {
            x.worth(19, c[0]);
            x.set(0, c[1]);
            Due.is("EARN of WORTH " + c[0] + " by TENTH " + c[1], x.dayOf(19, 3), c[2]);
        }
    }

    private static void weightsHeldByTheSign() {
        SaidWeather x = new SaidWeather();
        Places.weights(x, 19, 0, 9, 0, 0);
        Due.is("SIGN of a WEATHER without WEIGHT", x.sign(19, 3), -9);
        Due.is("its WEIGHT", x.dayOf(19, 9), 6);
        Due.is("LIKELIEST", x.dayOf(19, 4), 1);
        x.set(3, 20);
        Due.is("SIGNS 20", x.dayOf(19, 9), 20);
        Due.is("LIKELIEST", x.dayOf(19, 4), 3);
        x.sign(19, 1);
        Due.is("29 at most", x.dayOf(19, 7), 29);
        Due.is("without the SIGN", x.dayOf(19, 9), 0);
        x.set(3, 0);
        Due.is("SIGNS 0", x.dayOf(19, 7), 9);
        Due.is("all would be 0 in spite of SIGNS", x.weigh(19, 1, 0), -4);
        Due.is("1 is enough", x.weigh(19, 1, 1), 9);
        Due.is("weigh answers without SIGNS", x.weigh(19, 1, 9), 1);
    }

    private static void likeliestOfAll() {
        SaidWeather x = new SaidWeather();
        int[][] cases = {{1, 1, 1, 1, 0}, {0, 1, 1, 1, 1}, {0, 0, 1, 1, 2}, {0, 0, 0, 1, 3}, {8, 9, 9, 0, 1},
            {9, 9, 9, 9, 0}, {8, 8, 8, 9, 3}, {8, 8, 9, 9, 2}};
        for (int[] c : cases) {
            Places.weights(x, 0, c);
            Due.is("LIKELIEST", x.dayOf(0, 4), c[4]);
        }
    }

    private static void daysThatAreOverStayOpenToTheHost() {
        SaidWeather x = new SaidWeather();
        x.morning(20);
        int was = x.dayOf(19, 2);
        Due.is("worth", x.worth(19, 0), 10);
        Due.is("weigh", x.weigh(19, 0, 9), 1);
        int sign = x.dayOf(19, 1);
        Due.is("sign", x.sign(19, -1), sign);
        Due.is("WORTH", x.dayOf(19, 0), 0);
        Due.is("WEIGHT", x.dayOf(19, 6), 9);
        Due.is("SIGN", x.dayOf(19, 1), -9);
        Due.is("what it was stays", x.dayOf(19, 2), was);
    }

    // Promises 12, 13

    private static void pursesBeyondTheirRange() {
        SaidWeather x = new SaidWeather();
        x.sayer(0, 0);
        x.purse(0, 9999);
        x.set(0, 100);
        x.set(2, 0);
        x.worth(0, 99);
        Places.weights(x, 0, 0, 0, 0, 9);
        Due.is("PRICE 0", x.say(0, 0, 3), 0);
        Due.is("PURSE", x.sayerOf(0, 2), 109999);
        x.morning(1);
        Due.is("beyond 9999", x.sayerOf(0, 2), 109999 + 99);
        Due.is("purse tells it", x.purse(0, -9999), 109999 + 99);
        x.set(1, 99);
        x.set(2, 99);
        x.say(0, 1, 0);
        x.say(0, 1, 1);
        x.say(0, 1, 2);
        x.say(0, 1, 3);
        x.set(0, 0);
        x.morning(1);
        Due.is("below -9999: four PRICES, three FINES", x.sayerOf(0, 2), 100000 - 9999 - 4 * 99 - 3 * 99);
        Due.is("purse tells it", x.purse(0, 9999), 100000 - 9999 - 4 * 99 - 3 * 99);
        Due.is("owed", x.owed(0), 9999000);
    }

    private static void sayOnTheLastDays() {
        SaidWeather x = new SaidWeather();
        x.sayer(0, 0);
        Due.is("NOW", x.say(0, 0, 0), 0);
        x.morning(19);
        Due.is("the DAY ahead of NOW", x.say(0, 18, 0), -1);
        for (int weather = 0; weather < 4; weather++) {
            Due.is("DAY 19", x.say(0, 19, weather), weather + 1);
        }
        Due.is("all four", x.dayOf(19, 5), 15);
        Due.is("a fifth", x.say(0, 19, 0), -4);
        Due.is("not over", x.sayingOf(4, 3), 0);
        x.morning(1);
        int right = 0;
        for (int saying = 1; saying <= 4; saying++) {
            right += x.sayingOf(saying, 3) == 1 ? 1 : 0;
        }
        Due.is("one of four is right", right, 1);
        Due.is("NOW 20", x.say(0, 19, 0), -1);
    }

    // Promise 15

    private static void earlyUpToTheLastDay() {
        for (int now = 9; now <= 19; now++) {
            for (int a = 0; a <= 9; a++) {
                SaidWeather x = new SaidWeather();
                x.sayer(0, 0);
                x.morning(now);
                x.mind(0, 1, a);
                int last = Math.min(19, now + a);
                Due.is("NOW " + now + ", A " + a, x.would(0, 0), last);
                for (int day = last; day > now; day--) {
                    x.say(0, day, 3);
                    Due.is("the last of which nobody said anything", x.would(0, 0), day - 1);
                    Due.is("one", x.would(0, 2), 1);
                }
                x.say(0, now, 0);
                Due.is("there is none", x.would(0, 0), -3);
                Due.is("there is none", x.would(0, 2), 0);
                x.mind(0, 4, a);
                Due.is("nor for all", x.would(0, 0), -3);
            }
        }
    }

    private static void toldByEachA() {
        for (int a = 0; a <= 9; a++) {
            SaidWeather x = new SaidWeather();
            x.sayer(5, a);
            Due.is("told: WEATHER A modulo 4", x.would(0, 1), a % 4);
            Due.is("told: of NOW", x.would(0, 0), 0);
            for (int weather = 0; weather < 4; weather++) {
                if (weather != a % 4) {
                    x.say(0, 0, weather);
                }
            }
            Due.is("others were said", x.would(0, 2), 1);
            x.morning(1);
            Due.is("he said it", x.dayOf(0, 5), 15);
            x.say(0, 1, a % 4);
            Due.is("it was said", x.would(0, 2), 0);
            x.morning(1);
            Due.is("he said nothing", x.sayerOf(0, 3), 5);
        }
    }

    private static void sureAtTheEdge() {
        for (int a = 0; a <= 9; a++) {
            for (int weight = 0; weight <= 9; weight++) {
                SaidWeather x = new SaidWeather();
                x.sayer(3, a);
                Places.weights(x, 0, 9 - weight, weight, 1, 0);
                int most = Math.max(weight, 9 - weight);
                Due.is("sure " + a + " of " + most + " by 10", x.would(0, 2), most >= a ? 1 : 0);
            }
        }
    }

    private static void allWithLittleRoom() {
        for (int room = 0; room <= 5; room++) {
            SaidWeather x = new SaidWeather();
            x.sayer(4, 0);
            x.sayer(5, 1);
            for (int i = 0; i < 40 - room; i++) {
                x.say(1, 19 - i / 4, i % 4);
            }
            Due.is("all would say", x.would(0, 2), Math.min(4, room));
            Due.is("the DAY", x.would(0, 0), room == 0 ? -3 : 0);
            Due.is("the first WEATHER", x.would(0, 1), room == 0 ? -3 : 0);
            x.morning(1);
            Due.is("all said", x.sayerOf(0, 3), Math.min(4, room));
            Due.is("WEATHERS from 0 on", x.dayOf(0, 5), (1 << Math.min(4, room)) - 1);
            Due.is("many(1)", x.many(1), 40 - room + Math.min(4, room));
        }
    }

    private static void roomThatEndsInAMorning() {
        SaidWeather x = new SaidWeather();
        x.sayer(0, 0);
        x.sayer(2, 0);
        x.sayer(1, 9);
        x.sayer(5, 1);
        x.sayer(5, 2);
        for (int i = 0; i < 37; i++) {
            x.say(0, 19 - i / 4, i % 4);
        }
        x.set(1, 0);
        x.set(0, 0);
        x.morning(1);
        int[] sayings = {37, 1, 1, 1, 0};
        for (int i = 0; i < 5; i++) {
            Due.is("SAYINGS of " + i, x.sayerOf(i, 3), sayings[i]);
            Due.is("PURSE of " + i, x.sayerOf(i, 2), 100000 - sayings[i]);
        }
        Due.is("many(1)", x.many(1), 40);
        Due.is("there is no room", x.say(0, 1, 1), -2);
        x.morning(19);
        Due.is("none ever more", x.many(1), 40);
    }

    // Promises 16, 28

    /** A z from which the next one has these upper 16 bits. */
    private static int seedFor(int upper, int lower) {
        return ((upper << 16 | lower & 0xffff) - 12345) * UNDO;
    }

    private static void drawsAtEachMark() {
        int[][] cases = {{1, 1, 1, 1}, {3, 0, 2, 1}, {0, 0, 0, 9}, {9, 0, 0, 0}, {0, 4, 5, 0}, {9, 9, 9, 9}, {0, 1, 0, 1}};
        for (int[] w : cases) {
            int all = w[0] + w[1] + w[2] + w[3];
            for (int upper : new int[] {0, 1, 32767 / all * all, 32768, 65536 / all * all - all}) {
                int start = upper / all * all;
                for (int mark = 0; mark < all && start + mark < 65536; mark++) {
                    SaidWeather x = new SaidWeather();
                    Places.weights(x, 0, w);
                    x.seed(seedFor(start + mark, mark * 977));
                    x.morning(1);
                    int want = mark < w[0] ? 0 : mark < w[0] + w[1] ? 1 : mark < w[0] + w[1] + w[2] ? 2 : 3;
                    Due.is("mark " + mark + " of " + all, x.dayOf(0, 2), want);
                }
            }
        }
    }

    private static void signsAtEachMark() {
        int[] w = {2, 0, 3, 4};
        for (int mark = 0; mark < 9; mark++) {
            SaidWeather x = new SaidWeather();
            Places.weights(x, 4, w);
            // two steps back: the second one finds the SIGN
            int z = seedFor(9 * 7000 + mark, 5);
            x.seed((z - 12345) * UNDO);
            x.set(3, 20);
            x.morning(1);
            Due.is("SIGN at mark " + mark, x.dayOf(4, 1), mark < 2 ? 0 : mark < 5 ? 2 : 3);
        }
        for (int mark = 0; mark < 15; mark++) {
            SaidWeather x = new SaidWeather();
            Places.weights(x, 0, w);
            x.sign(0, 1);
            x.seed(seedFor(15 * 4000 + mark, 5));
            x.morning(1);
            Due.is("a WEATHER by its SIGN alone, mark " + mark, x.dayOf(0, 2), mark < 2 ? 0 : mark < 8 ? 1 : mark < 11 ? 2 : 3);
        }
    }

    /** What a SAYING brings comes on the morning of its DAY, neither ahead of it nor again. */
    private static void eachDayIsPaidOnce() {
        SaidWeather x = new SaidWeather();
        x.sayer(0, 0);
        x.sayer(0, 0);
        x.set(0, 100);
        x.set(1, 7);
        x.set(2, 0);
        int[] worths = {0, 10, 20, 40, 80};
        for (int day = 0; day < 5; day++) {
            x.worth(day, worths[day]);
            Places.certain(x, day, 3);
        }
        x.say(0, 1, 3);
        x.say(0, 2, 0);
        x.say(0, 3, 3);
        x.say(1, 3, 1);
        x.say(1, 3, 2);
        int[] first = {0, 10, 3, 43, 43};
        int[] second = {0, 0, 0, -14, -14};
        for (int day = 0; day < 5; day++) {
            x.morning(1);
            Due.is("PURSE 0 after DAY " + day, x.sayerOf(0, 2), 100000 + first[day]);
            Due.is("PURSE 1 after DAY " + day, x.sayerOf(1, 2), 100000 + second[day]);
        }
    }

    private static void zWraps() {
        for (int z : new int[] {MIN, MIN + 1, -1, 0, 1, MAX - 1, MAX}) {
            SaidWeather x = new SaidWeather();
            x.seed(z);
            x.sign(4, 2);
            x.morning(1);
            long next = (long) z * 1103515245L + 12345L;
            Due.is("z after " + z, x.seed(3), (int) next);
            long unsigned = next & 0xffffffffL;
            Due.is("the upper bits without a sign", x.dayOf(0, 2), (unsigned >> 16) % 4);
        }
    }

    private static void theLastSigns() {
        SaidWeather x = new SaidWeather();
        for (int day = 0; day < 4; day++) {
            Due.is("no SIGN at first", x.dayOf(day, 1), -9);
        }
        for (int now = 1; now <= 20; now++) {
            int z = x.seed(0);
            x.seed(z);
            x.morning(1);
            int steps = now + 3 < 20 ? 2 : 1;
            for (int i = 0; i < steps; i++) {
                z = z * 1103515245 + 12345;
            }
            Due.is("z at NOW " + now, x.seed(z), z);
            for (int day = 0; day < 20; day++) {
                Due.is("a SIGN of DAY " + day, x.dayOf(day, 1) >= 0 ? 1 : 0, day > 3 && day <= now + 3 ? 1 : 0);
            }
        }
    }

    private static void theEnd() {
        SaidWeather x = Places.ended();
        Due.is("now()", x.now(), 20);
        Due.is("many(2)", x.many(2), 20);
        Due.is("open()", x.open(), 0);
        Due.is("judge(): ROWS that were", x.judge(), 1);
        String before = Look.at(x);
        Due.is("morning(0)", x.morning(0), 20);
        Due.is("morning(1)", x.morning(1), 20);
        Due.is("morning(20)", x.morning(20), 20);
        Due.same("nothing comes any more", Look.at(x), before);
        for (int sayer = 0; sayer < 4; sayer++) {
            Due.is("would: how many", x.would(sayer, 2), 0);
            Due.is("owed is PURSE", x.owed(sayer), 1000L * (x.sayerOf(sayer, 2) - 100000));
        }
        Due.is("prove(20)", x.prove(20), 0);
        Due.is("no ROWS", x.many(3), 0);
        Due.is("judge()", x.judge(), 0);
    }

    private static void nowToldByAText() {
        SaidWeather x = new SaidWeather();
        x.set(2, 0);
        Due.is("now 20", Due.read(x, "late 0; said 0 19 0; said 0 0 1; now 20;"), 1);
        Due.is("NOW", x.morning(20), 20);
        for (int day = 0; day < 20; day += 19) {
            Due.is("no DAY has been", x.dayOf(day, 2), -9);
            Due.is("owner", x.owner(day), -3);
        }
        Due.is("wrong", x.sayingOf(0, 3), 2);
        Due.is("wrong", x.sayingOf(1, 3), 2);
        Due.is("believed", x.believed(0, 0), 0);
        Due.is("believed", x.believed(0, 1), 1);
        Due.is("owed", x.owed(0), 0);
        Due.is("best", x.best(0), -3);
        Due.is("now 19", Due.read(x, "late 0; said 0 19 1; said 0 18 0; now 19;"), 1);
        Due.is("not over", x.sayingOf(0, 3), 0);
        Due.is("over", x.sayingOf(1, 3), 2);
        Due.is("would", x.would(0, 0), 19);
        Due.is("prove(20)", x.prove(20), 1);
        Due.is("morning(20)", x.morning(20), 20);
        Due.is("it has been", x.dayOf(19, 2) >= 0 ? 1 : 0, 1);
        Due.is("it has not", x.dayOf(18, 2), -9);
    }

    // Promises 20 to 24

    private static void gainsAtTheEnds() {
        SaidWeather x = new SaidWeather();
        x.set(0, 100);
        x.set(1, 99);
        x.set(2, 0);
        x.worth(19, 99);
        Places.weights(x, 19, 9, 0, 0, 0);
        Due.is("the greatest", x.gain(19, 0, 0), 99);
        Due.is("by 1", x.gain(19, 0, 1), 1);
        x.set(2, 99);
        Due.is("0", x.gain(19, 0, 0), 0);
        Due.is("0 is 0 by 1", x.gain(19, 0, 1), 1);
        Due.is("the least", x.gain(19, 3, 0), -198);
        Due.is("by 1", x.gain(19, 3, 1), 1);
        Due.is("whole", x.whole(19, 0), 99 - 3 * 99 - 4 * 99);
        Places.weights(x, 19, 9, 9, 9, 8);
        x.sign(19, 1);
        x.set(3, 20);
        // 99 * (8 - 47 - 55) by 55
        Due.is("below 0", x.gain(19, 3, 0), -846);
        Due.is("by 5", x.gain(19, 3, 1), 5);
        x.set(1, 0);
        x.sign(19, -1);
        Places.weights(x, 19, 5, 9, 9, 7);
        // 99 * (5 - 30) by 30
        Due.is("without a common divisor", x.gain(19, 0, 0), -165);
        Due.is("without a common divisor", x.gain(19, 0, 1), 2);
        Places.weights(x, 0, 1, 0, 0, 0);
        Due.is("odds of 0", x.odds(0, 3, 0), 0);
        Due.is("odds of 0 by 1", x.odds(0, 3, 1), 1);
        Due.is("odds of 1", x.odds(0, 0, 0), 1);
        Due.is("odds of 1 by 1", x.odds(0, 0, 1), 1);
    }

    private static void waitedAtTheEnds() {
        for (int now = 0; now <= 20; now++) {
            SaidWeather x = new SaidWeather();
            x.morning(now);
            for (int day = now; day < 20; day++) {
                x.sign(day, -1);
            }
            for (int day = 0; day < 20; day++) {
                boolean isNo = day <= now + 3;
                Due.is("waited(" + day + ", 1) at NOW " + now, x.waited(day, 1), isNo ? NO : 1);
                Due.is("waited(" + day + ", 0) at NOW " + now, x.waited(day, 0), isNo ? NO : 0);
            }
        }
        SaidWeather x = new SaidWeather();
        x.sayer(0, 0);
        x.set(0, 100);
        x.set(2, 0);
        x.worth(4, 99);
        Places.weights(x, 4, 0, 0, 0, 1);
        Due.is("certain", x.waited(4, 0), 99);
        Due.is("certain by 1", x.waited(4, 1), 1);
        x.say(0, 4, 3);
        Due.is("the best of the rest is none", x.waited(4, 0), 0);
        Due.is("the best of the rest is none", x.waited(4, 1), 1);
        Places.weights(x, 5, 1, 1, 0, 0);
        x.worth(5, 99);
        x.set(1, 50);
        // each SIGN: 7 of 8 for one of both: (99 * 7 - 50) by 8
        Due.is("either SIGN", x.waited(5, 0), 643);
        Due.is("either SIGN, by 8", x.waited(5, 1), 8);
        x.say(0, 5, 0);
        // SIGN 0: WEATHER 1 is 1 of 8, below 0, none; SIGN 1 as ahead; by 2
        Due.is("one was said", x.waited(5, 0), 643);
        Due.is("one was said, by 16", x.waited(5, 1), 16);
    }

    private static void bestIsTheLast() {
        SaidWeather x = new SaidWeather();
        x.worth(19, 99);
        Places.weights(x, 19, 1, 1, 1, 9);
        Due.is("DAY", x.best(0), 19);
        Due.is("WEATHER", x.best(1), 3);
        x.morning(19);
        x.sign(19, -1);
        Due.is("NOW is the last", x.best(0), 19);
        x.sayer(0, 0);
        x.say(0, 19, 3);
        Due.is("of several the first", x.best(1), 0);
        x.say(0, 19, 0);
        Due.is("the next", x.best(1), 1);
        x.say(0, 19, 1);
        Due.is("one is left", x.best(1), 2);
        Due.is("the last WHOLE", x.whole(19, 0), x.gain(19, 2, 0));
        x.say(0, 19, 2);
        Due.is("all is said", x.best(0), -3);
        Due.is("WHOLE of none", x.whole(19, 0), 0);
        Due.is("WHOLE of none by 1", x.whole(19, 1), 1);
    }

    private static void owedIsCutTowardsZero() {
        SaidWeather x = new SaidWeather();
        x.sayer(0, 0);
        x.set(2, 0);
        x.set(1, 1);
        Places.weights(x, 0, 1, 1, 1, 0);
        x.worth(0, 10);
        x.say(0, 0, 0);
        // 1000 * (1 - 2) by 3
        Due.is("-333 and a rest", x.owed(0), -333);
        x.worth(0, 40);
        // 1000 * (4 - 2) by 3
        Due.is("666 and a rest", x.owed(0), 666);
        x.worth(0, 20);
        Due.is("0", x.owed(0), 0);
        x.say(0, 0, 1);
        x.worth(0, 40);
        Due.is("each by itself", x.owed(0), 1332);
        x.purse(0, -1);
        Due.is("PURSE below 0", x.owed(0), 332);
        x.set(0, 100);
        x.set(1, 99);
        x.worth(0, 99);
        Places.weights(x, 0, 1, 0, 0, 0);
        Due.is("both ends", x.owed(0), -1000 + 99000 - 99000);
        x.morning(1);
        Due.is("over", x.owed(0), -1000);
    }

    private static void owedToEach() {
        SaidWeather x = new SaidWeather();
        for (int sayer = 0; sayer < 5; sayer++) {
            x.sayer(0, 0);
            x.purse(sayer, sayer * 10);
        }
        x.set(0, 100);
        x.set(2, 0);
        for (int sayer = 4; sayer >= 0; sayer--) {
            x.worth(sayer, 42 + 4 * sayer);
            x.say(sayer, sayer, 0);
        }
        for (int sayer = 0; sayer < 5; sayer++) {
            // EARN and three FINES of 2, by 4
            Due.is("his own SAYING alone", x.owed(sayer), 10000 * sayer + 1000 * (9 + sayer));
        }
    }

    /** Neither the DAY ahead nor the DAY behind makes one an owner. */
    private static void ownerOfThatDay() {
        SaidWeather x = new SaidWeather();
        x.sayer(0, 0);
        x.sayer(0, 0);
        for (int day = 0; day < 5; day++) {
            Places.certain(x, day, 2);
        }
        x.say(1, 3, 2);
        x.say(0, 1, 2);
        x.say(0, 2, 1);
        x.morning(5);
        int[] owners = {-3, 0, -3, 1, -3};
        for (int day = 0; day < 5; day++) {
            Due.is("owner(" + day + ")", x.owner(day), owners[day]);
        }
    }

    private static void believedOfMany() {
        SaidWeather x = new SaidWeather();
        x.sayer(0, 0);
        x.sayer(0, 0);
        for (int day = 0; day < 10; day++) {
            Places.weights(x, day, 0, 0, 7, 0);
            for (int weather = 0; weather < 4; weather++) {
                x.say(weather == 2 ? 1 : 0, day, weather);
            }
        }
        x.morning(20);
        Due.is("30 of which none", x.believed(0, 0), 0);
        Due.is("0 by 1", x.believed(0, 1), 1);
        Due.is("10 of 10", x.believed(1, 0), 1);
        Due.is("1 by 1", x.believed(1, 1), 1);
        Due.is("whom", x.whom(), 1);
        for (int day = 0; day < 20; day++) {
            Due.is("owner", x.owner(day), day < 10 ? 1 : -3);
        }
    }

    /** Who has no SAYING of a DAY that is over is believed 0 by 1: no less than who was never right. */
    private static void whomWithoutAny() {
        for (int who = 0; who < 5; who++) {
            SaidWeather x = new SaidWeather();
            for (int i = 0; i < 5; i++) {
                x.sayer(0, 0);
            }
            for (int day = 0; day < 3; day++) {
                Places.certain(x, day, 1);
            }
            Due.is("nobody said anything", x.whom(), 0);
            x.say(who, 0, 0);
            x.say(who, 1, 1);
            x.say(who, 2, 2);
            Due.is("nothing is over", x.whom(), 0);
            x.morning(1);
            Due.is("wrong", x.whom(), 0);
            x.morning(1);
            Due.is("one of two", x.whom(), who);
            x.morning(1);
            Due.is("one of three", x.whom(), who);
        }
    }

    // Promises 29 to 33

    private static void rowsAtTheEnd() {
        for (int now = 0; now <= 20; now++) {
            SaidWeather x = new SaidWeather();
            x.sayer(2, 0);
            x.morning(now);
            for (int n : new int[] {1, 19 - now, 20 - now, 21 - now, 20}) {
                if (n >= 1 && n <= 20) {
                    Due.is("prove(" + n + ") at NOW " + now, x.prove(n), Math.min(n, 20 - now));
                    Due.is("many(3)", x.many(3), Math.min(n, 20 - now));
                    Due.is("judge()", x.judge(), 0);
                    Due.is("beyond", x.row(x.many(3), 0), MIN);
                }
            }
        }
        SaidWeather x = new SaidWeather();
        x.prove(20);
        x.alterRow(19, 2, MAX);
        Due.is("the last ROW", x.judge(), 20);
        x.alterRow(0, 1, MIN);
        Due.is("the first ROW", x.judge(), 1);
        Due.is("row tells what it became", x.row(0, 1), MIN);
        Due.is("alterRow tells what it was", x.alterRow(0, 1, 0), MIN);
        Due.is("again the last", x.judge(), 20);
        Due.is("judge changes nothing", x.row(19, 2), MAX);
        Due.is("now()", x.now(), 0);
    }

    private static void worthsAtTheEnds() {
        SaidWeather x = new SaidWeather();
        x.sheet(3, 0, 20);
        int[] bytes = {-128, -1, 0, 1, 98, 99, 100, 127};
        int[] worths = {0, 0, 0, 1, 98, 99, 99, 99};
        for (int i = 0; i < bytes.length; i++) {
            x.put(3, i, bytes[i]);
        }
        Due.is("all of 20", x.worths(3, 0, 0, 20), 20);
        for (int i = 0; i < 20; i++) {
            Due.is("WORTH of " + i, x.dayOf(i, 0), i < bytes.length ? worths[i] : 0);
        }
        x.worth(19, 5);
        Due.is("none of them", x.worths(3, 20, 19, 0), 0);
        Due.is("WORTH stays", x.dayOf(19, 0), 5);
        Due.is("the last of both", x.worths(3, 19, 19, 1), 1);
        Due.is("WORTH", x.dayOf(19, 0), 0);
        Due.is("beyond the row", x.worths(3, 1, 0, 20), -12);
        Due.is("beyond the row", x.worths(3, MAX, 0, 20), -12);
        Due.is("beyond the DAYS", x.worths(3, 0, 1, 20), -1);
        for (int i = 0; i < bytes.length; i++) {
            Due.is("WORTH of " + i + " stays", x.dayOf(i, 0), worths[i]);
        }
    }

    // Promises 34 to 41

    private static void narrowedItems() {
        int[][] cases = {{127, 127, 127}, {128, -128, 128}, {255, -1, 255}, {256, 0, 256}, {-128, -128, -128},
            {-129, 127, -129}, {32767, -1, 32767}, {32768, 0, -32768}, {65535, -1, -1}, {65536, 0, 0},
            {-32768, 0, -32768}, {-32769, -1, 32767}, {MIN, 0, 0}, {MAX, -1, -1}, {-1, -1, -1}};
        SaidWeather x = new SaidWeather();
        for (int sort = 0; sort < 4; sort++) {
            x.sheet(sort, sort, 1);
            for (int[] c : cases) {
                Due.is("put", x.put(sort, 0, c[0]), 1);
                Due.is(c[0] + " of sort " + sort, x.item(sort, sort, 0), sort == 0 ? c[1] : sort == 1 ? c[2] : c[0]);
            }
        }
    }

    private static void shelvesAtFirst() {
        SaidWeather x = new SaidWeather();
        for (int i = 0; i < 5; i++) {
            x.sayer(0, 0);
            x.sheet(i, 2, 3);
        }
        for (int shelf = 0; shelf < 4; shelf++) {
            Due.is("nothing, though there are SAYERS", x.taken(shelf, 0), -11);
            Due.is("nothing, though there are SHEETS", x.taken(shelf, 12), -11);
            Due.is("nothing acts", x.act(shelf, SAYS, 1), 0);
            Due.is("no TRACE", x.many(5), 0);
        }
        for (int shelf = 0; shelf < 4; shelf++) {
            x.shelf(shelf, 0, 4 - shelf);
        }
        x.shelf(1, 2, 0);
        x.shelf(2, 1, 3);
        int[] want = {4, -11, -13, 1};
        for (int shelf = 0; shelf < 4; shelf++) {
            Due.is("each by itself", x.taken(shelf, 0), want[shelf]);
        }
    }

    private static void sheetsOnShelves() {
        SaidWeather x = new SaidWeather();
        x.sheet(0, 1, 0);
        x.sheet(1, 2, 40);
        x.shelf(0, 1, 0);
        x.shelf(1, 1, 1);
        x.shelf(2, 1, 1);
        Due.is("an empty row", x.taken(0, 11), 0);
        Due.is("an empty row is something", x.taken(0, 0), -13);
        Due.is("forty", x.taken(1, 12), 40);
        x.put(1, 0, 3);
        x.sheet(1, 3, 7);
        Due.is("the row that it held", x.taken(1, 12), 40);
        x.shelf(2, 1, 1);
        Due.is("the row that is there now", x.taken(2, 13), 7);
        x.sheet(1, -1, 0);
        x.shelf(2, 1, 1);
        Due.is("a missing one: nothing", x.taken(2, 13), -11);
        Due.is("the first one stays", x.taken(1, 12), 40);
        Due.is("act of a row", x.act(1, 0, 5), 0);
        x.sayer(4, 3);
        x.shelf(1, 0, 0);
        Due.is("a SAYER in its place", x.taken(1, 1), 0);
        x.clerk();
        Due.is("none such any more", x.taken(1, 1), -11);
        Due.is("none such any more", x.taken(1, 12), -11);
        Due.is("act of nothing", x.act(1, 0, 5), 0);
    }

    private static SaidWeather thing(int kind, int number, int a) {
        SaidWeather x = new SaidWeather();
        for (int i = 0; i < number; i++) {
            x.sayer(0, 0);
        }
        x.sayer(kind, a);
        x.shelf(0, 0, number);
        return x;
    }

    private static void actsThatWrap() {
        SaidWeather x = thing(0, 4, 9);
        Due.is("says", x.act(0, SAYS, MAX - 3), MIN);
        Due.is("says", x.act(0, SAYS, MIN), MIN + 4);
        Due.is("waits", x.act(0, WAITS, 0x40000000 - 4), MIN);
        Due.is("waits", x.act(0, WAITS, 0x3fffffff - 4), MAX - 1);
        Due.is("waits", x.act(0, WAITS, MIN), 8);
        Due.is("shares", x.act(0, SHARES, -4), 0);
        Due.is("shares", x.act(0, SHARES, -5), -1);
        Due.is("shares", x.act(0, SHARES, MIN), MIN / 5);
        Due.is("tells", x.act(0, TELLS, MIN), 8 ^ 9);
        x = thing(1, 0, 9);
        Due.is("early waits", x.act(0, WAITS, MIN / 2), MAX - 8);
        x = thing(2, 4, 3);
        Due.is("late says", x.act(0, SAYS, 0x2aaaaaab - 4), MIN + 1);
        Due.is("late shares by -1", x.act(0, SHARES, MIN), MIN);
        Due.is("late tells", x.act(0, TELLS, MAX), ((MAX + 4) * 3 * 2 ^ 3) - 4);
        x = thing(3, 1, 0);
        Due.is("sure says", x.act(0, SAYS, MIN - 1), -(MIN * 3));
        Due.is("sure says MIN", x.act(0, SAYS, MIN + -1), MIN);
        x = thing(4, 0, 1);
        Due.is("all shares", x.act(0, SHARES, MAX), MIN);
        Due.is("all shares", x.act(0, SHARES, MAX - 1), MIN + 1);
        x = thing(4, 4, 0);
        Due.is("all says", x.act(0, SAYS, MAX), MAX);
        x = thing(5, 4, 3);
        Due.is("told tells", x.act(0, TELLS, 0x20000000 - 4), (0x40000000 ^ 3) * 2);
        Due.is("told shares", x.act(0, SHARES, MIN), MIN + 7);
        x = thing(5, 0, 1);
        Due.is("told shares", x.act(0, SHARES, MAX), MIN);
    }

    private static void longestTrace() {
        SaidWeather x = thing(3, 1, 0);
        int[] bodies = {31, 13, 41, 11, 40, 30, 10, 40, 30, 10, 12};
        x.act(0, TELLS, 1);
        Due.is("many(5)", x.many(5), bodies.length);
        for (int i = 0; i < bodies.length; i++) {
            Due.is("trace(" + i + ")", x.trace(i), bodies[i]);
        }
        for (int i = bodies.length; i <= 31; i++) {
            Due.is("trace(" + i + ")", x.trace(i), -3);
        }
        x.act(0, SAYS, 1);
        Due.is("of the latest act alone", x.many(5), 3);
        Due.is("trace(3)", x.trace(3), -3);
        x.mind(0, 0, 0);
        x.mind(1, 0, 1);
        Due.is("-15", x.act(0, SHARES, 7), -15);
        Due.is("many(5)", x.many(5), 1);
        Due.is("trace(0)", x.trace(0), 12);
    }

    // Promises 42, 43

    private static void keptAtTheEnds() {
        SaidWeather x = new SaidWeather();
        Due.is("keep()", x.keep(), 1);
        for (int i = 0; i < 5; i++) {
            x.sayer(4, 9);
        }
        x.morning(20);
        Due.is("forty SAYINGS", x.many(1), 40);
        Due.is("again()", x.again(), 0);
        Due.same("as a new object", Look.at(x), Look.at(new SaidWeather()));
        SaidWeather full = Places.full();
        full.again();
        Due.is("five SAYERS", full.many(0), 5);
        Due.is("forty SAYINGS", full.many(1), 40);
        Due.is("WORTH", full.dayOf(3, 0), 10);
        full.morning(20);
        full.keep();
        Due.is("the text of one SAYER", full.clerk(), 1);
        Due.is("the empty text", full.clerk(), 0);
        Due.is("again(): NOW 20", full.again(), 20);
        Due.is("five SAYERS", full.many(0), 5);
    }
}
