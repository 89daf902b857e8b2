import java.util.function.Supplier;

/**
 * Each refusal of each call, by tables: the last number that is taken and the first that is not, on
 * both sides; which refusal is named of several; and that a refused call changes nothing, what is
 * kept and what the tape tells among it.
 */
public final class RefusalsTest {
    private static final long MIN = Integer.MIN_VALUE, MAX = Integer.MAX_VALUE;
    private static final long NO = -1000000000000L;

    private RefusalsTest() {
    }

    public static void main(String[] args) {
        rangesOfDays();
        rangesOfSayers();
        rangesOfWorth();
        rangesOfRows();
        rangesOfTheHost();
        holesInRanges();
        full();
        notAsTold();
        actsThatAreNone();
        ended();
        fresh();
        ofSeveralTheFirstNamed();
        ofSeveralOfTheHost();
        Due.end();
    }

    private static void refused(Supplier<SaidWeather> place, long want, String name, long... numbers) {
        SaidWeather x = place.get();
        String told = Calls.told(name, numbers);
        Due.is(told, Calls.call(x, name, numbers), want);
        Due.same(told + " changes nothing", Look.whole(x), Look.whole(place.get()));
    }

    private static void taken(Supplier<SaidWeather> place, long refusal, String name, long... numbers) {
        long got = Calls.call(place.get(), name, numbers);
        Due.is(Calls.told(name, numbers) + " is refused", got == refusal ? 1 : 0, 0);
    }

    private static long[] with(long[] numbers, int at, long number) {
        long[] others = numbers.clone();
        others[at] = number;
        return others;
    }

    /** The number at a place is taken from least to most; less is answered by below, more by above. */
    private static void range(long below, long above, int at, long least, long most, String name, long... numbers) {
        taken(Places::some, below, name, with(numbers, at, least));
        taken(Places::some, above, name, with(numbers, at, most));
        refused(Places::some, below, name, with(numbers, at, least - 1));
        refused(Places::some, below, name, with(numbers, at, MIN));
        refused(Places::some, above, name, with(numbers, at, most + 1));
        refused(Places::some, above, name, with(numbers, at, MAX));
    }

    private static void bad(int at, long least, long most, String name, long... numbers) {
        range(-1, -1, at, least, most, name, numbers);
    }

    private static void no(int at, long least, long most, String name, long... numbers) {
        range(NO, NO, at, least, most, name, numbers);
    }

    private static void rangesOfDays() {
        bad(1, 1, 8, "feed", 0, 1);
        bad(0, 0, 19, "worth", 5, 5);
        bad(1, 0, 99, "worth", 5, 5);
        bad(0, 0, 19, "weigh", 5, 1, 5);
        bad(1, 0, 3, "weigh", 5, 1, 5);
        bad(2, 0, 9, "weigh", 5, 1, 5);
        bad(0, 0, 19, "sign", 5, 1);
        bad(1, -1, 3, "sign", 5, 1);
        bad(0, 0, 19, "dayOf", 5, 0);
        bad(1, 0, 9, "dayOf", 1, 0);
        bad(0, 0, 3, "set", 0, 5);
        long[] most = {100, 99, 99, 20};
        for (int law = 0; law < 4; law++) {
            bad(1, 0, most[law], "set", law, 5);
        }
    }

    private static void rangesOfSayers() {
        bad(0, 0, 5, "sayer", 0, 5);
        bad(1, 0, 9, "sayer", 0, 5);
        bad(0, 0, 3, "sayerOf", 0, 0);
        bad(1, 0, 3, "sayerOf", 0, 0);
        bad(0, 0, 3, "mind", 0, 0, 0);
        bad(1, 0, 5, "mind", 0, 0, 0);
        bad(2, 0, 9, "mind", 0, 0, 0);
        bad(0, 0, 3, "purse", 0, 0);
        bad(1, -9999, 9999, "purse", 0, 0);
        bad(0, 0, 3, "say", 0, 5, 1);
        bad(1, 2, 19, "say", 0, 5, 1);
        bad(2, 0, 3, "say", 0, 5, 1);
        bad(0, 0, 4, "sayingOf", 0, 0);
        bad(1, 0, 3, "sayingOf", 0, 0);
        bad(0, 0, 3, "would", 2, 0);
        bad(1, 0, 2, "would", 2, 0);
        bad(0, 0, 20, "morning", 1);
        refused(Places::some, -1, "owner", -1);
        refused(Places::some, -1, "owner", MIN);
        refused(Places::some, -1, "owner", 20);
        refused(Places::some, -1, "owner", MAX);
        for (int day = 2; day < 20; day++) {
            refused(Places::some, -3, "owner", day);
        }
    }

    private static void rangesOfWorth() {
        bad(0, 2, 19, "odds", 5, 1, 0);
        bad(1, 0, 3, "odds", 5, 1, 0);
        bad(2, 0, 1, "odds", 5, 1, 0);
        no(0, 2, 19, "gain", 5, 1, 0);
        no(1, 0, 3, "gain", 5, 1, 0);
        no(2, 0, 1, "gain", 5, 1, 0);
        no(0, 6, 19, "waited", 6, 1);
        no(1, 0, 1, "waited", 6, 1);
        bad(0, 0, 1, "best", 0);
        no(0, 2, 19, "whole", 5, 1);
        no(1, 0, 1, "whole", 5, 1);
        no(0, 0, 3, "owed", 0);
        bad(0, 0, 3, "believed", 0, 1);
        bad(1, 0, 1, "believed", 0, 1);
    }

    private static void rangesOfRows() {
        bad(0, 1, 20, "prove", 1);
        range(MIN, MIN, 0, 0, 4, "row", 1, 0);
        range(MIN, MIN, 1, 0, 2, "row", 1, 0);
        range(MIN, MIN, 0, 0, 4, "alterRow", 1, 0, 9);
        range(MIN, MIN, 1, 0, 2, "alterRow", 1, 0, 9);
        refused(Places::some, -1, "worths", -1, 0, 0, 0);
        refused(Places::some, -1, "worths", MIN, 0, 0, 0);
        refused(Places::some, -1, "worths", 4, 0, 0, 0);
        refused(Places::some, -1, "worths", MAX, 0, 0, 0);
        range(-12, -12, 1, 0, 6, "worths", 0, 0, 3, 0);
        range(-12, -12, 1, 0, 4, "worths", 0, 0, 3, 2);
        range(-12, -12, 1, 0, 0, "worths", 0, 0, 3, 6);
        bad(2, 0, 19, "worths", 0, 0, 3, 1);
        bad(2, 0, 14, "worths", 0, 0, 3, 6);
        taken(Places::some, -12, "worths", 0, 0, 13, 6);
        refused(Places::some, -12, "worths", 0, 0, 13, 7);
        refused(Places::some, -1, "worths", 0, 0, 13, 8);
        bad(3, 0, 6, "worths", 0, 0, 14, 2);
        bad(3, 0, 1, "worths", 0, 0, 19, 1);
    }

    private static void rangesOfTheHost() {
        bad(0, 0, 3, "sheet", 0, 0, 5);
        bad(1, -1, 3, "sheet", 0, 0, 5);
        for (int sort = 0; sort < 4; sort++) {
            range(-14, -1, 2, 0, 40, "sheet", 1, sort, 5);
            bad(0, 0, 3, "put", 0, 1, 5);
            range(-12, -12, 1, 0, 5 - sort, "put", sort, 1, 5);
            range(-12, -12, 2, 0, 5 - sort, "item", sort, sort, 1);
        }
        bad(0, 0, 3, "shelf", 0, 2, 0);
        bad(1, 0, 2, "shelf", 0, 0, 0);
        bad(2, 0, 3, "shelf", 0, 0, 0);
        bad(2, 0, 3, "shelf", 0, 1, 0);
        bad(0, 0, 5, "many", 0);
        for (long bad : new long[] {-1, 4, MIN, MAX}) {
            refused(Places::some, -1, "item", bad, 0, 0);
            refused(Places::some, -1, "item", 0, bad, 0);
            refused(Places::some, -1, "taken", bad, 0);
            refused(Places::some, -1, "taken", bad, 12);
        }
        taken(Places::some, -3, "trace", 0);
        refused(Places::some, -3, "trace", -1);
        refused(Places::some, -3, "trace", MIN);
        refused(Places::some, -3, "trace", MAX);
        SaidWeather x = Places.some();
        int count = x.many(5);
        taken(Places::some, -3, "trace", count - 1);
        refused(Places::some, -3, "trace", count);
    }

    private static void holesInRanges() {
        for (long bad : new long[] {-1, 6, 7, 8, 9, 14, MIN, MAX}) {
            for (int shelf = 0; shelf < 4; shelf++) {
                refused(Places::some, -1, "taken", shelf, bad);
            }
        }
        taken(Places::some, -13, "taken", 0, 0);
        taken(Places::some, -13, "taken", 0, 1);
        taken(Places::some, -13, "taken", 1, 12);
        for (int as : new int[] {2, 3, 4, 5, 10, 11, 12, 13}) {
            refused(Places::some, -13, "taken", 0, as);
        }
        for (int as : new int[] {0, 1, 2, 3, 4, 5, 10, 11, 13}) {
            refused(Places::some, -13, "taken", 1, as);
        }
        for (int as : new int[] {0, 1, 2, 3, 4, 5, 10, 11, 12, 13}) {
            refused(Places::some, -11, "taken", 2, as);
        }
        for (int sheet = 0; sheet < 4; sheet++) {
            for (int sort = 0; sort < 4; sort++) {
                if (sheet == sort) {
                    taken(Places::some, -13, "item", sheet, sort, 0);
                } else {
                    refused(Places::some, -13, "item", sheet, sort, 0);
                }
            }
            if (sheet > 0) {
                refused(Places::some, -13, "worths", sheet, 0, 0, 0);
            }
        }
    }

    private static void full() {
        for (int n = 1; n <= 8; n++) {
            refused(Places::full, -2, "feed", 0, n);
        }
        for (int kind = 0; kind < 6; kind++) {
            refused(Places::full, -2, "sayer", kind, 0);
        }
        for (int sayer = 0; sayer < 5; sayer++) {
            refused(Places::full, -2, "say", sayer, 0, 0);
            refused(Places::full, -3, "would", sayer, 0);
            refused(Places::full, -3, "would", sayer, 1);
            Due.is("would: how many", Places.full().would(sayer, 2), 0);
        }
        refused(Places::full, -1, "sayingOf", 40, 0);
        refused(Places::full, -1, "sayerOf", 5, 0);
        refused(Places::full, MIN, "row", 20, 0);
        refused(Places::full, MIN, "alterRow", 20, 0, 0);
        taken(Places::full, -1, "sayingOf", 39, 0);
        taken(Places::full, -1, "sayerOf", 4, 0);
        taken(Places::full, MIN, "row", 19, 0);
        taken(Places::full, MIN, "alterRow", 19, 0, 0);
    }

    private static void notAsTold() {
        refused(Places::some, -4, "weigh", 9, 2, 0);
        taken(Places::some, -4, "weigh", 9, 2, 1);
        refused(Places::some, -4, "say", 0, 7, 3);
        refused(Places::some, -4, "say", 3, 7, 3);
        taken(Places::some, -4, "say", 3, 7, 2);
        refused(Places::some, NO, "gain", 7, 3, 0);
        taken(Places::some, NO, "gain", 7, 2, 0);
        refused(Places::some, NO, "waited", 12, 0);
        taken(Places::some, NO, "waited", 13, 0);
        refused(Places::some, -3, "would", 0, 0);
        refused(Places::some, -3, "would", 0, 1);
        Due.is("would: how many", Places.some().would(0, 2), 0);
    }

    /** THE TRACE is all that such an act takes away. */
    private static void actsThatAreNone() {
        for (long bad : new long[] {-1, 4, MIN, MAX}) {
            noAct(bad, 0);
            noAct(0, bad);
        }
        for (int act = 0; act < 4; act++) {
            noAct(1, act);
            noAct(2, act);
        }
    }

    private static void noAct(long shelf, long act) {
        SaidWeather x = Places.some();
        String told = Calls.told("act", shelf, act, 1);
        Due.is(told, Calls.call(x, "act", shelf, act, 1), 0);
        Due.is(told + ": no TRACE then", x.many(5), 0);
        Due.is(told + ": no TRACE then", x.trace(0), -3);
        Due.same(told + " changes nothing else", withoutTrace(Look.whole(x)), withoutTrace(Look.whole(Places.some())));
    }

    private static String withoutTrace(String look) {
        return look.replaceAll("\ntrace.*", "").replaceAll("(?m)^((?:\\d+,){5})\\d+,", "$1");
    }

    private static void ended() {
        for (int day = 0; day < 20; day++) {
            refused(Places::ended, -1, "say", 0, day, 0);
            refused(Places::ended, -1, "odds", day, 0, 0);
            refused(Places::ended, NO, "gain", day, 3, 1);
            refused(Places::ended, NO, "waited", day, 1);
            refused(Places::ended, NO, "whole", day, 1);
        }
        refused(Places::ended, -1, "say", 0, 20, 0);
        refused(Places::ended, -1, "odds", 20, 0, 0);
        refused(Places::ended, NO, "gain", 20, 3, 1);
        refused(Places::ended, NO, "waited", 20, 1);
        refused(Places::ended, NO, "waited", 24, 1);
        refused(Places::ended, NO, "whole", 20, 1);
        refused(Places::ended, -3, "best", 0);
        refused(Places::ended, -3, "best", 1);
        for (int sayer = 0; sayer < 4; sayer++) {
            refused(Places::ended, -3, "would", sayer, 0);
            refused(Places::ended, -3, "would", sayer, 1);
        }
        refused(Places::ended, -1, "morning", 21);
        refused(Places::ended, -1, "morning", -1);
        refused(Places::ended, -1, "prove", 0);
        refused(Places::ended, -1, "prove", 21);
        refused(Places::ended, -1, "owner", 20);
    }

    private static void fresh() {
        refused(SaidWeather::new, -1, "sayerOf", 0, 0);
        refused(SaidWeather::new, -1, "mind", 0, 0, 0);
        refused(SaidWeather::new, -1, "purse", 0, 0);
        refused(SaidWeather::new, -1, "say", 0, 0, 0);
        refused(SaidWeather::new, -1, "sayingOf", 0, 0);
        refused(SaidWeather::new, -1, "would", 0, 0);
        refused(SaidWeather::new, -1, "would", 0, 2);
        refused(SaidWeather::new, -3, "owner", 0);
        refused(SaidWeather::new, -3, "owner", 19);
        refused(SaidWeather::new, NO, "owed", 0);
        refused(SaidWeather::new, -1, "believed", 0, 0);
        refused(SaidWeather::new, -3, "whom");
        refused(SaidWeather::new, MIN, "row", 0, 0);
        refused(SaidWeather::new, MIN, "alterRow", 0, 0, 0);
        refused(SaidWeather::new, -1, "shelf", 0, 0, 0);
        refused(SaidWeather::new, -3, "trace", 0);
        refused(SaidWeather::new, -3, "again");
        for (int i = 0; i < 4; i++) {
            refused(SaidWeather::new, -11, "put", i, 0, 0);
            refused(SaidWeather::new, -11, "item", i, i, 0);
            refused(SaidWeather::new, -11, "worths", i, 0, 0, 0);
            refused(SaidWeather::new, -11, "taken", i, 0);
        }
    }

    private static void ofSeveralTheFirstNamed() {
        // BAD, FULL
        refused(Places::full, -1, "feed", 0, 0);
        refused(Places::full, -1, "feed", 0, 9);
        refused(Places::full, -1, "sayer", 6, 0);
        refused(Places::full, -1, "sayer", -1, 0);
        refused(Places::full, -1, "sayer", 0, 10);
        refused(Places::full, -1, "sayer", 0, -1);
        // BAD, STATE, FULL
        refused(Places::full, -4, "say", 0, 19, 0);
        refused(Places::full, -4, "say", 4, 10, 3);
        refused(Places::full, -1, "say", 5, 19, 0);
        refused(Places::full, -1, "say", 5, 0, 0);
        refused(Places::full, -1, "say", 0, 20, 0);
        refused(Places::full, -1, "say", 0, 0, 4);
        refused(Places::some, -1, "say", 4, 7, 3);
        // of a DAY that is over, and said
        SaidWeather x = Places.some();
        Due.is("the DAY of SAYING 0 is over", x.sayingOf(0, 3) > 0 ? 1 : 0, 1);
        refused(Places::some, -1, "say", 0, x.sayingOf(0, 1), x.sayingOf(0, 2));
        // BAD, STATE
        refused(Places::some, -1, "weigh", 9, 2, -1);
        refused(Places::some, -1, "weigh", 9, 4, 0);
        // BAD, NONE
        refused(Places::some, -1, "would", 0, 3);
        refused(Places::some, -1, "would", 0, -1);
        refused(Places::ended, -1, "would", 4, 0);
        refused(Places::ended, -1, "would", 0, 3);
        refused(Places::ended, -1, "best", 2);
        refused(Places::ended, -1, "best", -1);
    }

    /** Sheets 0 and 1 are a row of bytes and one of ints, 2 and 3 are missing. */
    private static SaidWeather twoSheets() {
        SaidWeather x = Places.some();
        x.sheet(0, 0, 4);
        x.sheet(1, 2, 4);
        x.sheet(2, -1, 0);
        x.sheet(3, -1, 0);
        return x;
    }

    private static void ofSeveralOfTheHost() {
        Supplier<SaidWeather> two = RefusalsTest::twoSheets;
        // BAD, -11, -13, -12
        refused(two, -1, "worths", 4, 9, 0, 1);
        refused(two, -1, "worths", 2, 9, 20, 1);
        refused(two, -1, "worths", 2, 9, 0, 21);
        refused(two, -1, "worths", 2, 9, 19, 2);
        refused(two, -1, "worths", 1, 9, 20, 1);
        refused(two, -1, "worths", 1, 9, 0, -1);
        refused(two, -1, "worths", 1, 9, 19, 2);
        refused(two, -1, "worths", 0, 9, 20, 1);
        refused(two, -1, "worths", 0, 9, 19, 2);
        refused(two, -1, "worths", 0, -1, 0, 21);
        refused(two, -11, "worths", 2, 9, 0, 1);
        refused(two, -11, "worths", 2, -1, 0, 0);
        refused(two, -13, "worths", 1, 9, 0, 1);
        refused(two, -13, "worths", 1, -1, 0, 0);
        refused(two, -12, "worths", 0, 5, 0, 0);
        // BAD, -14
        refused(two, -1, "sheet", 4, 0, -1);
        refused(two, -1, "sheet", -1, 0, -1);
        refused(two, -1, "sheet", 0, 4, -1);
        refused(two, -1, "sheet", 0, -2, -1);
        refused(two, -1, "sheet", 4, -1, 0);
        // BAD, -11, -12
        refused(two, -1, "put", 4, -1, 0);
        refused(two, -11, "put", 2, -1, 0);
        refused(two, -11, "put", 2, 40, 0);
        // BAD, -11, -13, -12
        refused(two, -1, "item", 4, 0, -1);
        refused(two, -1, "item", 2, 4, -1);
        refused(two, -1, "item", 0, 4, -1);
        refused(two, -11, "item", 2, 0, -1);
        refused(two, -11, "item", 3, 3, 40);
        refused(two, -13, "item", 0, 2, -1);
        refused(two, -13, "item", 1, 0, 4);
        // BAD, -11, -13
        refused(two, -1, "taken", 4, 0);
        refused(two, -1, "taken", 2, 6);
        refused(two, -1, "taken", 2, 9);
        refused(two, -1, "taken", 2, 14);
        refused(two, -1, "shelf", 4, 1, 2);
        refused(two, -1, "shelf", 0, 3, 2);
    }
}
