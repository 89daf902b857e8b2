/** Promise 3: clerk, the text and its faults. */
public final class ClerkTest {
    public static void main(String[] args) {
        wholeText();
        whatStays();
        days();
        sayers();
        sayings();
        now();
        wordsAndBlanks();
        faultsOfDays();
        faultsOfSayers();
        faultsOfSayings();
        faultsOfOtherBytes();
        faultsChangeNothing();
        fullTape();
        Due.end();
    }

    private static void reads(String text, int want) {
        SaidWeather x = new SaidWeather();
        Due.is("'" + text + "'", Due.read(x, text), want);
    }

    /** The fault stands where the text has a '^' (which is not fed). */
    private static void faultAt(String marked) {
        int place = marked.indexOf('^');
        reads(marked.substring(0, place) + marked.substring(place + 1), -100 - place);
    }

    private static void wholeText() {
        SaidWeather x = new SaidWeather();
        String text = "early 5; late 0; sure 7; day 3 worth 42 of 1 2 0 9 sign 1; all 9; told 6;"
            + " day 4 worth 0; day 19 worth 99 sign 3; said 4 7 1; said 0 1 2; now 2; day 5 worth 1 of 0 0 0 1;";
        Due.is("clerk()", Due.read(x, text), 5);
        int[][] kinds = {{1, 5}, {2, 0}, {3, 7}, {4, 9}, {5, 6}};
        for (int i = 0; i < 5; i++) {
            Due.is("KIND of " + i, x.sayerOf(i, 0), kinds[i][0]);
            Due.is("A of " + i, x.sayerOf(i, 1), kinds[i][1]);
            Due.is("PURSE of " + i, x.sayerOf(i, 2), 100000);
        }
        int[] third = {42, 1, -9, 4, 3, 0, 1, 8, 0, 9};
        for (int what = 0; what < 10; what++) {
            Due.is("dayOf(3, " + what + ")", x.dayOf(3, what), third[what]);
        }
        Due.is("dayOf(4, 0)", x.dayOf(4, 0), 0);
        Due.is("dayOf(4, 1)", x.dayOf(4, 1), -9);
        Due.is("dayOf(4, 7)", x.dayOf(4, 7), 1);
        Due.is("dayOf(19, 0)", x.dayOf(19, 0), 99);
        Due.is("dayOf(19, 1)", x.dayOf(19, 1), 3);
        Due.is("dayOf(19, 9)", x.dayOf(19, 9), 7);
        Due.is("dayOf(5, 6)", x.dayOf(5, 6), 0);
        Due.is("dayOf(5, 9)", x.dayOf(5, 9), 1);
        Due.is("many(1)", x.many(1), 2);
        int[][] sayings = {{4, 7, 1, 0}, {0, 1, 2, 2}};
        for (int i = 0; i < 2; i++) {
            for (int what = 0; what < 4; what++) {
                Due.is("sayingOf(" + i + ", " + what + ")", x.sayingOf(i, what), sayings[i][what]);
            }
        }
        Due.is("now()", x.now(), 2);
        Due.is("no DAY has been yet", x.dayOf(1, 2), -9);
        Due.is("owner(1)", x.owner(1), -3);
        Due.is("believed(0, 0)", x.believed(0, 0), 0);
    }

    private static void whatStays() {
        SaidWeather x = new SaidWeather();
        x.set(0, 77);
        x.set(3, 9);
        x.seed(1234);
        x.sayer(2, 1);
        x.purse(0, 500);
        x.worth(8, 88);
        x.weigh(8, 1, 5);
        x.sign(8, 1);
        x.sheet(0, 2, 3);
        x.put(0, 1, 9);
        x.shelf(0, 0, 0);
        x.shelf(1, 1, 0);
        x.prove(3);
        x.act(0, 1, 3);
        x.keep();
        x.morning(2);
        int z = x.seed(4321);
        Due.is("z went on", z == 1234 ? 1 : 0, 0);
        Due.is("prove(3)", x.prove(3), 3);
        Due.is("the empty text", x.clerk(), 0);
        Due.is("no SAYERS", x.many(0), 0);
        Due.is("no SAYINGS", x.many(1), 0);
        Due.is("NOW", x.many(2), 0);
        Due.is("no ROWS", x.many(3), 0);
        Due.is("row(0, 0)", x.row(0, 0), Integer.MIN_VALUE);
        Due.is("THE TRACE stays", x.many(5), 3);
        Due.is("z stays", x.seed(1), 4321);
        Due.is("TENTH stays", x.set(0, 10), 77);
        Due.is("SIGNS stays", x.set(3, 6), 9);
        Due.is("WORTH as at first", x.dayOf(8, 0), 10);
        Due.is("WEIGHT as at first", x.dayOf(8, 7), 1);
        Due.is("SIGN as at first", x.dayOf(8, 1), -9);
        Due.is("no DAY was", x.dayOf(0, 2), -9);
        Due.is("nothing is said", x.dayOf(0, 5), 0);
        Due.is("the sheet stays", x.item(0, 2, 1), 9);
        Due.is("a shelf without its sayer", x.taken(0, 0), -11);
        Due.is("a shelf with its row", x.taken(1, 12), 3);
        Due.is("what is kept stays", x.again(), 0);
        Due.is("the sayer is there again", x.taken(0, 0), 0);
        Due.is("PURSE is there again", x.sayerOf(0, 2), 100500);
        Due.is("a text with PURSES 0", Due.read(x, "late 1;"), 1);
        Due.is("PURSE", x.sayerOf(0, 2), 100000);
    }

    private static void days() {
        SaidWeather x = new SaidWeather();
        Due.is("a DAY told twice", Due.read(x, "day 2 worth 3 of 4 5 6 7 sign 2; day 2 worth 8;"), 0);
        Due.is("WORTH by the latter", x.dayOf(2, 0), 8);
        Due.is("WEIGHTS by the latter", x.dayOf(2, 6), 1);
        Due.is("SIGN by the latter", x.dayOf(2, 1), -9);
        Due.is("two digits", Due.read(x, "day 09 worth 07 of 01 00 09 00 sign 03;"), 0);
        Due.is("WORTH", x.dayOf(9, 0), 7);
        Due.is("WEIGHT", x.dayOf(9, 8), 9);
        Due.is("SIGN", x.dayOf(9, 1), 3);
    }

    private static void sayers() {
        SaidWeather x = new SaidWeather();
        String[] names = {"sayer", "early", "late", "sure", "all", "told"};
        for (int kind = 0; kind < 6; kind++) {
            Due.is(names[kind], Due.read(x, names[kind] + " " + (kind + 3) + ";"), 1);
            Due.is("KIND", x.sayerOf(0, 0), kind);
            Due.is("A", x.sayerOf(0, 1), kind + 3);
        }
        Due.is("five", Due.read(x, "all 0;all 1;all 2;all 3;all 4;"), 5);
    }

    private static void sayings() {
        SaidWeather x = new SaidWeather();
        Due.is("said", Due.read(x, "sayer 0; said 0 5 1; said 0 5 2; said 0 6 1; sayer 1; said 1 5 0;"), 2);
        Due.is("many(1)", x.many(1), 4);
        Due.is("a set", x.dayOf(5, 5), 7);
        Due.is("no PRICE is paid", x.sayerOf(0, 2), 100000);
        Due.is("his SAYINGS", x.sayerOf(0, 3), 3);
        Due.is("it was said", x.say(1, 6, 1), -4);
        Due.is("of a DAY that is over then", Due.read(x, "told 0; said 0 4 0; now 9; said 0 3 0;"), 1);
        Due.is("it is wrong", x.sayingOf(0, 3), 2);
        Due.is("it is wrong, too", x.sayingOf(1, 3), 2);
    }

    private static void now() {
        SaidWeather x = new SaidWeather();
        Due.is("now 20", Due.read(x, "now 20;"), 0);
        Due.is("now()", x.now(), 20);
        Due.is("the latter counts", Due.read(x, "now 7;now 3;"), 0);
        Due.is("now()", x.now(), 3);
        Due.is("not told", Due.read(x, "sayer 1;"), 1);
        Due.is("now()", x.now(), 0);
    }

    private static void wordsAndBlanks() {
        SaidWeather x = new SaidWeather();
        Due.is("as few blanks as can be", Due.read(x, "day1worth2of3 4 5 6sign0;sayer9;said0 1 2;now1;"), 1);
        Due.is("WORTH", x.dayOf(1, 0), 2);
        Due.is("WEIGHT", x.dayOf(1, 6), 9);
        Due.is("as many as one likes", Due.read(x, "   now    5   ;    all  1 ;   "), 1);
        Due.is("now()", x.now(), 5);
        reads("", 0);
        reads("   ", 0);
        faultAt("^nownow 1;");
        faultAt("^nowz 1;");
        faultAt("^anow 1;");
        faultAt("now ^190;");
        faultAt("^0now 1;");
        faultAt("now 1 ^2;");
        faultAt("now 1^\t;");
        faultAt("^Now 1;");
        faultAt("now 1^\n;");
        faultAt("^no w 1;");
    }

    private static void faultsOfDays() {
        faultAt("day^");
        faultAt("day  ^");
        faultAt("day 1^");
        faultAt("day 1 worth^");
        faultAt("day 1 worth 2^");
        faultAt("day 1 worth 2 of^");
        faultAt("day 1 worth 2 of 1^");
        faultAt("day 1 worth 2 of 1 1 1^");
        faultAt("day 1 worth 2 of 1 1 1 1^");
        faultAt("day 1 worth 2 of 1 1 1 1 sign^");
        faultAt("day 1 worth 2 of 1 1 1 1 sign 1 ^");
        faultAt("day ^20 worth 2;");
        faultAt("day ^001 worth 2;");
        faultAt("day ^worth 2;");
        faultAt("day ^;");
        faultAt("day ^-1 worth 2;");
        faultAt("day 1 ^wort 2;");
        faultAt("day 1 ^worthy 2;");
        faultAt("day 1 ^of 2;");
        faultAt("day 1 ^2;");
        faultAt("day 1 worth ^100;");
        faultAt("day 1 worth ^099;");
        faultAt("day 1 worth ^of;");
        faultAt("day 1 worth 2 ^3;");
        faultAt("day 1 worth 2 of ^10 1 1 1;");
        faultAt("day 1 worth 2 of 1 1 1 ^10;");
        faultAt("day 1 worth 2 of 1 1 1 ^;");
        faultAt("day 1 worth 2 of 1 1 1 1 ^1;");
        faultAt("day 1 worth 2 of 0 0 0 ^0;");
        faultAt("day 1 worth 2 of 0 0 0 ^00 sign 1;");
        faultAt("day 1 worth 2 of 1 1 1 1 ^of 1 1 1 1;");
        faultAt("day 1 worth 2 sign ^4;");
        faultAt("day 1 worth 2 sign 1 ^of 1 1 1 1;");
        faultAt("day 1 worth 2 sign 1 ^sign 1;");
        faultAt("day 1 worth 2 ^worth 1;");
        reads("day 19 worth 99 of 9 9 9 9 sign 3;", 0);
        reads("day 0 worth 0 of 0 0 0 9 sign 0;", 0);
        reads("day 0 worth 0 of 1 0 0 0 sign 0;", 0);
    }

    private static void faultsOfSayers() {
        faultAt("sayer^");
        faultAt("late 1^");
        faultAt("late ^10;");
        faultAt("late ^;");
        faultAt("late ^a;");
        faultAt("^lates 1;");
        faultAt("^lat 1;");
        faultAt("^kind 1;");
        faultAt("^worth 1;");
        faultAt("^of 1;");
        faultAt("^sign 1;");
        faultAt("late 1 ^late 2;");
        faultAt("all 0;all 1;all 2;all 3;all 4; ^all 5;");
        faultAt("all 0;all 1;all 2;all 3;all 4;now 1;^sayer");
        faultAt("all 0;all 1;all 2;all 3;all 4;^x");
    }

    private static void faultsOfSayings() {
        faultAt("said^");
        faultAt("said ^0 0 0;");
        faultAt("said ^0 0 0; sayer 0;");
        faultAt("sayer 0; said ^1 0 0;");
        faultAt("sayer 0; said 0 ^20 0;");
        faultAt("sayer 0; said 0 0 ^4;");
        faultAt("sayer 0; said 0 0^");
        faultAt("sayer 0; said 0 0 ^;");
        faultAt("sayer 0; said 0 0 0 ^0;");
        faultAt("sayer 0; said 0 0 0^");
        faultAt("sayer 0; said 0 7 2; said 0 7 ^2;");
        faultAt("sayer 0; sayer 0; said 0 7 2; said 1 7 ^02;");
        faultAt("sayer 0; said 0 7 2; said 0 7 ^2");
        reads("sayer 0; sayer 0; said 01 19 03; said 0 19 02;", 2);
    }

    private static void faultsOfOtherBytes() {
        faultAt("^;");
        faultAt("^1;");
        faultAt("^{ now 1;");
        faultAt("now 1; ^;");
        faultAt("now 1^,");
        faultAt("now ^21;");
        faultAt("now ^020;");
        faultAt("now^");
        faultAt("now 1^");
        faultAt("now 1;^\u00e9");
        faultAt("now 1;^\u0000");
        faultAt("now^\u00ff1;");
        faultAt("now^`1;");
        faultAt("now^{1;");
        faultAt("now 1^/;");
        faultAt("now 1^:;");
    }

    private static void faultsChangeNothing() {
        SaidWeather x = new SaidWeather();
        x.set(1, 5);
        x.seed(99);
        x.sayer(4, 5);
        x.sayer(2, 5);
        x.purse(1, -33);
        x.morning(2);
        x.prove(4);
        String before = Look.at(x);
        String[] texts = {"day 1 worth 5; sayer 1; said 0 0 0; now 4; x", "now 3", "all 1; all ", ";"};
        for (String text : texts) {
            Due.is("'" + text + "' is refused", Due.read(x, text) <= -100 ? 1 : 0, 1);
            Due.same("'" + text + "' changes nothing", Look.at(x), before);
        }
    }

    private static void fullTape() {
        StringBuilder text = new StringBuilder("sayer0;");
        int count = 0;
        for (int day = 0; day < 10 && text.length() + 10 <= 240; day++) {
            for (int weather = 0; weather < 4 && text.length() + 10 <= 240; weather++) {
                text.append("said0 ").append(day).append(' ').append(weather).append(';');
                count++;
            }
        }
        while (text.length() < 240) {
            text.append(' ');
        }
        SaidWeather x = new SaidWeather();
        Due.is("240 bytes", Due.feed(x, text.toString()), 240);
        Due.is("clerk()", x.clerk(), 1);
        Due.is("many(1)", x.many(1), count);
        faultAt(" ".repeat(239) + "^;");
        faultAt(" ".repeat(237) + "now^");
        faultAt(" ".repeat(231) + "now ^00000");
    }
}
