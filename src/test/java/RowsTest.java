/** Promises 29 to 33: rows, and worths out of a sheet. */
public final class RowsTest {
    private static final int MIN = Integer.MIN_VALUE, MAX = Integer.MAX_VALUE;

    public static void main(String[] args) {
        prove();
        proveIsAsMorningsAre();
        row();
        alterRow();
        judge();
        judgeBeyondTheLastDay();
        worths();
        worthsRefuses();
        Due.end();
    }

    private static SaidWeather five() {
        SaidWeather x = new SaidWeather();
        for (int kind = 1; kind <= 5; kind++) {
            x.sayer(kind, kind + 1);
        }
        x.seed(4711);
        return x;
    }

    private static void prove() {
        SaidWeather x = five();
        for (int bad : new int[] {0, -1, 21, MIN, MAX}) {
            Due.is("prove(" + bad + ")", x.prove(bad), -1);
        }
        Due.is("no ROWS yet", x.many(3), 0);
        String before = Look.at(x);
        Due.is("prove(20)", x.prove(20), 20);
        Due.is("many(3)", x.many(3), 20);
        Due.is("a refusal leaves ROWS", x.prove(0), -1);
        Due.is("many(3)", x.many(3), 20);
        Due.is("prove(1)", x.prove(1), 1);
        Due.is("fewer ROWS", x.many(3), 1);
        Due.is("none such any more", x.row(1, 0), MIN);
        x = five();
        x.prove(7);
        String after = Look.at(x);
        Due.is("nothing but ROWS changes", after.replaceAll("\nrow [^\n]*", "").replaceFirst(",7,", ",0,")
            .equals(before) ? 1 : 0, 1);
        x.morning(17);
        Due.is("as far as there are such", x.prove(20), 3);
        x.morning(3);
        Due.is("none in the end", x.prove(1), 0);
        Due.is("many(3)", x.many(3), 0);
    }

    private static void proveIsAsMorningsAre() {
        SaidWeather x = five();
        x.purse(2, 50);
        x.morning(2);
        x.prove(18);
        for (int i = 0; i < 18; i++) {
            x.morning(1);
            int day = 2 + i;
            Due.is("row(" + i + ", 0)", x.row(i, 0), x.dayOf(day, 2));
            int owner = x.owner(day);
            Due.is("row(" + i + ", 1)", x.row(i, 1), owner < 0 ? 0 : owner + 1);
            int purses = 0;
            for (int sayer = 0; sayer < 5; sayer++) {
                purses += x.sayerOf(sayer, 2) - 100000;
            }
            Due.is("row(" + i + ", 2)", x.row(i, 2), purses);
        }
    }

    private static void row() {
        SaidWeather x = five();
        x.prove(4);
        for (int bad : new int[] {-1, 4, 20, MIN, MAX, MAX / 3 + 1}) {
            Due.is("row(" + bad + ", 0)", x.row(bad, 0), MIN);
        }
        for (int bad : new int[] {-1, 3, MIN, MAX}) {
            Due.is("row(0, " + bad + ")", x.row(0, bad), MIN);
        }
        SaidWeather y = new SaidWeather();
        y.sayer(2, 0);
        y.weigh(0, 1, 0);
        y.weigh(0, 2, 0);
        y.weigh(0, 3, 0);
        y.worth(0, 90);
        y.purse(0, -100);
        y.prove(1);
        Due.is("the WEATHER", y.row(0, 0), 0);
        Due.is("who, and 1 more", y.row(0, 1), 1);
        Due.is("PURSES", y.row(0, 2), -100 - 1 + 9);
        y.mind(0, 5, 3);
        y.prove(1);
        Due.is("nobody", y.row(0, 1), 0);
        Due.is("PURSES", y.row(0, 2), -100 - 1 - 2);
        y.set(0, 0);
        y.mind(0, 2, 0);
        y.prove(1);
        Due.is("who gets EARN of 0", y.row(0, 1), 1);
    }

    private static void alterRow() {
        SaidWeather x = five();
        x.prove(4);
        int was = x.row(3, 2);
        Due.is("alterRow(3, 2, MIN)", x.alterRow(3, 2, MIN), was);
        Due.is("alterRow(3, 2, 7)", x.alterRow(3, 2, 7), MIN);
        Due.is("row(3, 2)", x.row(3, 2), 7);
        String before = Look.at(x);
        for (int bad : new int[] {-1, 4, 20, MIN, MAX}) {
            Due.is("alterRow(" + bad + ", 0, 0)", x.alterRow(bad, 0, 0), MIN);
        }
        for (int bad : new int[] {-1, 3, MIN, MAX}) {
            Due.is("alterRow(0, " + bad + ", 0)", x.alterRow(0, bad, 0), MIN);
        }
        Due.same("refusals change nothing", Look.at(x), before);
    }

    private static void judge() {
        SaidWeather x = five();
        Due.is("no ROWS", x.judge(), 0);
        x.prove(9);
        String before = Look.at(x);
        Due.is("all is right", x.judge(), 0);
        Due.same("nothing changes", Look.at(x), before);
        for (int i = 8; i >= 0; i--) {
            for (int what = 0; what < 3; what++) {
                int was = x.row(i, what);
                x.alterRow(i, what, was + 1);
                Due.is("judge()", x.judge(), i + 1);
                x.alterRow(i, what, was);
                Due.is("right again", x.judge(), i == 8 ? 0 : i + 2);
            }
            x.alterRow(i, 0, -1);
        }
        x.prove(9);
        x.seed(1);
        Due.is("another z", x.judge() > 0 ? 1 : 0, 1);
        x.seed(4711);
        Due.is("the same z", x.judge(), 0);
        x.purse(0, 1);
        Due.is("another PURSE", x.judge(), 1);
        x.purse(0, 0);
        x.set(2, 2);
        Due.is("another PRICE", x.judge(), 1);
    }

    private static void judgeBeyondTheLastDay() {
        SaidWeather x = new SaidWeather();
        for (int day = 0; day < 20; day++) {
            x.weigh(day, 1, 0);
            x.weigh(day, 2, 0);
            x.weigh(day, 3, 0);
        }
        // every row is (0, 0, 0): those that come are as those that were
        Due.is("prove(6)", x.prove(6), 6);
        Due.is("judge()", x.judge(), 0);
        x.morning(14);
        Due.is("six are left", x.judge(), 0);
        x.morning(1);
        Due.is("five are left", x.judge(), 6);
        x.morning(5);
        Due.is("none is left", x.judge(), 1);
    }

    private static SaidWeather withSheet() {
        SaidWeather x = new SaidWeather();
        x.sheet(2, 0, 40);
        for (int i = 0; i < 40; i++) {
            x.put(2, i, i * 5 - 20);
        }
        return x;
    }

    private static void worths() {
        SaidWeather x = withSheet();
        Due.is("worths(2, 3, 4, 5)", x.worths(2, 3, 4, 5), 5);
        int[] want = {10, 0, 0, 5, 10, 15, 10};
        for (int i = 0; i < 7; i++) {
            Due.is("WORTH of " + (3 + i), x.dayOf(3 + i, 0), want[i]);
        }
        Due.is("all DAYS", x.worths(2, 14, 0, 20), 20);
        for (int day = 0; day < 20; day++) {
            int item = (byte) ((14 + day) * 5 - 20);
            Due.is("held to 0 to 99", x.dayOf(day, 0), Math.max(0, Math.min(99, item)));
        }
        x.put(2, 0, -128);
        x.put(2, 1, 127);
        x.put(2, 2, 99);
        x.put(2, 3, 100);
        x.worths(2, 0, 16, 4);
        Due.is("-128", x.dayOf(16, 0), 0);
        Due.is("127", x.dayOf(17, 0), 99);
        Due.is("99", x.dayOf(18, 0), 99);
        Due.is("100", x.dayOf(19, 0), 99);
        Due.is("none", x.worths(2, 40, 19, 0), 0);
        Due.is("the last", x.worths(2, 39, 19, 1), 1);
        x.morning(5);
        Due.is("of a DAY that is over", x.worths(2, 5, 0, 1), 1);
        Due.is("WORTH", x.dayOf(0, 0), 5);
    }

    private static void worthsRefuses() {
        SaidWeather x = withSheet();
        x.sheet(1, 1, 5);
        x.sheet(3, 0, 0);
        String before = Look.at(x);
        for (int bad : new int[] {-1, 4, MIN, MAX}) {
            Due.is("sheet " + bad, x.worths(bad, 0, 0, 0), -1);
        }
        for (int bad : new int[] {-1, 20, MIN, MAX}) {
            Due.is("day " + bad, x.worths(2, 0, bad, 0), -1);
        }
        for (int bad : new int[] {-1, 21, MIN, MAX}) {
            Due.is("n " + bad, x.worths(2, 0, 0, bad), -1);
        }
        Due.is("beyond DAY 19", x.worths(2, 0, 19, 2), -1);
        Due.is("beyond DAY 19", x.worths(2, 0, 1, 20), -1);
        Due.is("BAD ahead of -11", x.worths(0, 0, 19, 2), -1);
        Due.is("missing", x.worths(0, -1, 0, 1), -11);
        Due.is("of another sort, ahead of -12", x.worths(1, -1, 0, 1), -13);
        for (int bad : new int[] {-1, 39, 41, MIN, MAX}) {
            Due.is("from " + bad, x.worths(2, bad, 0, 2), -12);
        }
        Due.is("from -1, none", x.worths(2, -1, 0, 0), -12);
        Due.is("from 41, none", x.worths(2, 41, 0, 0), -12);
        Due.is("an empty row", x.worths(3, 0, 0, 0), 0);
        Due.is("an empty row", x.worths(3, 0, 0, 1), -12);
        Due.same("refusals change nothing", Look.at(x), before);
    }
}
