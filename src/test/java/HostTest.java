/** Promises 34 to 41: sheets, shelves, acts and their trace, and how many. */
public final class HostTest {
    private static final int MIN = Integer.MIN_VALUE, MAX = Integer.MAX_VALUE;
    private static final int SAYER = 0, EARLY = 1, LATE = 2, SURE = 3, ALL = 4, TOLD = 5;
    private static final int SAYS = 0, WAITS = 1, SHARES = 2, TELLS = 3;

    public static void main(String[] args) {
        sheet();
        put();
        item();
        shelf();
        shelvesOfGoneSayers();
        taken();
        acts();
        actsPartedByZero();
        actsWrap();
        actRefuses();
        many();
        Due.end();
    }

    private static void sheet() {
        SaidWeather x = new SaidWeather();
        for (int sort = 0; sort < 4; sort++) {
            Due.is("sheet(" + sort + ", sort, 40)", x.sheet(sort, sort, 40), 1);
            Due.is("all 0", x.item(sort, sort, 39), 0);
            Due.is("no more", x.item(sort, sort, 40), -12);
        }
        x.put(2, 5, 7);
        Due.is("anew", x.sheet(2, 2, 6), 1);
        Due.is("all 0 again", x.item(2, 2, 5), 0);
        Due.is("empty", x.sheet(2, 1, 0), 1);
        Due.is("nothing in it", x.item(2, 1, 0), -12);
        Due.is("missing", x.sheet(2, -1, MIN), 1);
        Due.is("it is missing", x.item(2, 1, 0), -11);
        Due.is("missing still", x.sheet(2, -1, MAX), 1);
        for (int bad : new int[] {-1, 4, MIN, MAX}) {
            Due.is("sheet(" + bad + ", 0, 1)", x.sheet(bad, 0, 1), -1);
        }
        for (int bad : new int[] {-2, 4, MIN, MAX}) {
            Due.is("sheet(0, " + bad + ", 1)", x.sheet(0, bad, 1), -1);
        }
        Due.is("41", x.sheet(0, 0, 41), -1);
        Due.is("MAX", x.sheet(0, 0, MAX), -1);
        Due.is("-1", x.sheet(0, 0, -1), -14);
        Due.is("MIN", x.sheet(0, 0, MIN), -14);
        Due.is("BAD ahead of -14", x.sheet(0, 4, -1), -1);
        Due.is("BAD ahead of -14", x.sheet(4, 0, -1), -1);
        Due.is("it stays", x.item(0, 0, 39), 0);
    }

    private static void put() {
        SaidWeather x = new SaidWeather();
        int[] vs = {0, 1, -1, 127, 128, -129, 255, 32767, 32768, -32769, 65536 + 5, MIN, MAX};
        for (int sort = 0; sort < 4; sort++) {
            x.sheet(sort, sort, 3);
            for (int v : vs) {
                Due.is("put", x.put(sort, 1, v), 1);
                int want = sort == 0 ? (byte) v : sort == 1 ? (short) v : v;
                Due.is("item of sort " + sort + ": " + v, x.item(sort, sort, 1), want);
            }
            Due.is("beside it", x.item(sort, sort, 0), 0);
            Due.is("beside it", x.item(sort, sort, 2), 0);
        }
        for (int bad : new int[] {-1, 4, MIN, MAX}) {
            Due.is("put(" + bad + ", 0, 0)", x.put(bad, 0, 0), -1);
        }
        for (int bad : new int[] {-1, 3, MIN, MAX}) {
            Due.is("put(0, " + bad + ", 0)", x.put(0, bad, 0), -12);
        }
        x.sheet(0, -1, 0);
        Due.is("missing, ahead of -12", x.put(0, -1, 0), -11);
    }

    private static void item() {
        SaidWeather x = new SaidWeather();
        x.sheet(1, 1, 2);
        x.put(1, 0, -12);
        Due.is("an item as low as refusals", x.item(1, 1, 0), -12);
        for (int bad : new int[] {-1, 4, MIN, MAX}) {
            Due.is("sheet " + bad, x.item(bad, 1, 0), -1);
            Due.is("sort " + bad, x.item(1, bad, 0), -1);
        }
        Due.is("missing", x.item(0, 0, 0), -11);
        Due.is("BAD ahead of -11", x.item(0, 4, 0), -1);
        Due.is("of another sort", x.item(1, 0, 0), -13);
        Due.is("of another sort", x.item(1, 2, 0), -13);
        Due.is("of another sort, ahead of -12", x.item(1, 3, -1), -13);
        for (int bad : new int[] {-1, 2, MIN, MAX}) {
            Due.is("place " + bad, x.item(1, 1, bad), -12);
        }
    }

    private static void shelf() {
        SaidWeather x = new SaidWeather();
        x.sayer(ALL, 1);
        x.sayer(TOLD, 1);
        x.sheet(1, 3, 7);
        Due.is("a SAYER", x.shelf(3, 0, 1), 1);
        Due.is("taken", x.taken(3, 0), 1);
        Due.is("a row", x.shelf(3, 1, 1), 1);
        Due.is("taken", x.taken(3, 13), 7);
        Due.is("no SAYER any more", x.taken(3, 0), -13);
        Due.is("a SAYER", x.shelf(3, 0, 0), 1);
        Due.is("no row any more", x.taken(3, 13), -13);
        Due.is("nothing", x.shelf(3, 2, MIN), 1);
        Due.is("taken", x.taken(3, 0), -11);
        x.shelf(3, 0, 0);
        Due.is("a missing row", x.shelf(3, 1, 0), 1);
        Due.is("taken", x.taken(3, 0), -11);
        Due.is("taken", x.taken(3, 10), -11);
        for (int bad : new int[] {-1, 4, MIN, MAX}) {
            Due.is("shelf " + bad, x.shelf(bad, 2, 0), -1);
            Due.is("sheet " + bad, x.shelf(0, 1, bad), -1);
        }
        for (int bad : new int[] {-1, 3, MIN, MAX}) {
            Due.is("what " + bad, x.shelf(0, bad, 0), -1);
        }
        for (int bad : new int[] {-1, 2, 5, MIN, MAX}) {
            Due.is("sayer " + bad, x.shelf(0, 0, bad), -1);
        }
        x.shelf(2, 1, 1);
        x.sheet(1, 0, 3);
        Due.is("the row that was put there", x.taken(2, 13), 7);
        x.sheet(1, -1, 0);
        Due.is("it stays there", x.taken(2, 13), 7);
    }

    private static void shelvesOfGoneSayers() {
        SaidWeather x = new SaidWeather();
        x.sayer(ALL, 1);
        x.keep();
        x.sayer(TOLD, 1);
        x.shelf(0, 0, 1);
        x.again();
        Due.is("he is gone", x.taken(0, 0), -11);
        Due.is("nothing acts", x.act(0, 0, 5), 0);
        x.sayer(LATE, 1);
        Due.is("one of that number", x.taken(0, 2), 1);
        x.mind(1, SURE, 3);
        Due.is("of another KIND", x.taken(0, 3), 1);
    }

    private static void taken() {
        SaidWeather x = new SaidWeather();
        boolean[][] under = {
            {true, false, false, false, false, false},
            {true, true, false, false, false, false},
            {true, false, true, false, false, false},
            {true, false, true, true, false, false},
            {true, true, false, false, true, false},
            {true, false, false, false, false, true},
        };
        x.sayer(SAYER, 0);
        x.sayer(SAYER, 0);
        x.shelf(0, 0, 1);
        for (int kind = 0; kind < 6; kind++) {
            x.mind(1, kind, 0);
            for (int as = 0; as < 6; as++) {
                Due.is("KIND " + kind + " taken for " + as, x.taken(0, as), under[kind][as] ? 1 : -13);
            }
            for (int as = 10; as < 14; as++) {
                Due.is("KIND " + kind + " taken for a row", x.taken(0, as), -13);
            }
        }
        for (int sort = 0; sort < 4; sort++) {
            x.sheet(0, sort, 5 + sort);
            x.shelf(1, 1, 0);
            for (int as = 0; as < 4; as++) {
                Due.is("sort " + sort + " taken for " + as, x.taken(1, 10 + as), as == sort ? 5 + sort : -13);
            }
            for (int as = 0; as < 6; as++) {
                Due.is("sort " + sort + " taken for a thing", x.taken(1, as), -13);
            }
        }
        for (int bad : new int[] {-1, 4, MIN, MAX}) {
            Due.is("shelf " + bad, x.taken(bad, 0), -1);
        }
        for (int bad : new int[] {-1, 6, 9, 14, MIN, MAX}) {
            Due.is("as " + bad, x.taken(0, bad), -1);
            Due.is("as " + bad + ", BAD ahead of -11", x.taken(3, bad), -1);
        }
        Due.is("nothing", x.taken(3, 5), -11);
        Due.is("nothing", x.taken(3, 13), -11);
    }

    private static SaidWeather with(int kind, int number, int a) {
        SaidWeather x = new SaidWeather();
        for (int i = 0; i < number; i++) {
            x.sayer(SAYER, 0);
        }
        x.sayer(kind, a);
        x.shelf(2, 0, number);
        return x;
    }

    private static void act(SaidWeather x, int act, int v, int want, int... trace) {
        String call = "act(2, " + act + ", " + v + ")";
        Due.is(call, x.act(2, act, v), want);
        Due.is(call + ": many(5)", x.many(5), trace.length);
        for (int i = 0; i < trace.length; i++) {
            Due.is(call + ": trace(" + i + ")", x.trace(i), trace[i]);
        }
        Due.is(call + ": trace beyond", x.trace(trace.length), -3);
        Due.is(call + ": trace(-1)", x.trace(-1), -3);
        Due.is(call + ": trace(MIN)", x.trace(MIN), -3);
        Due.is(call + ": trace(MAX)", x.trace(MAX), -3);
    }

    private static void acts() {
        SaidWeather x = with(SAYER, 3, 7);
        act(x, SAYS, 10, 13, 10);
        act(x, WAITS, 10, 26, 11, 10);
        act(x, SHARES, -11, -2, 12);
        act(x, TELLS, 10, 26 ^ 7, 13, 11, 10);
        x = with(EARLY, 3, 7);
        act(x, SAYS, 10, 13, 10);
        act(x, WAITS, 10, 19, 20, 11, 10);
        act(x, SHARES, 11, 2, 12);
        act(x, TELLS, 10, 19 ^ 7, 13, 20, 11, 10);
        x = with(LATE, 4, 2);
        act(x, SAYS, 10, 42, 30, 10);
        act(x, WAITS, 10, 84, 11, 30, 10);
        act(x, SHARES, 11, -5, 12);
        act(x, TELLS, 10, (84 ^ 2) - 2, 31, 13, 11, 30, 10, 12);
        x = with(SURE, 4, 2);
        act(x, SAYS, 10, -42, 40, 30, 10);
        act(x, WAITS, 10, -84 - 24, 41, 11, 40, 30, 10, 40, 30, 10);
        act(x, SHARES, 11, -5, 12);
        act(x, TELLS, 10, (-108 ^ 2) - 2, 31, 13, 41, 11, 40, 30, 10, 40, 30, 10, 12);
        x = with(ALL, 2, 5);
        act(x, SAYS, 10, 10, 51, 10);
        act(x, WAITS, 10, 15, 20, 11, 51, 10);
        act(x, SHARES, 10, 5, 50, 12);
        act(x, TELLS, 10, 15 ^ 5, 13, 20, 11, 51, 10);
        x = with(TOLD, 2, 5);
        act(x, SAYS, 10, 12, 10);
        act(x, WAITS, 10, 24, 11, 10);
        act(x, SHARES, 10, 3 + 7, 61, 12, 10);
        act(x, TELLS, 10, (24 ^ 5) * 2, 60, 13, 11, 10);
    }

    private static void actsPartedByZero() {
        act(with(SAYER, 3, 3), SHARES, 5, -15, 12);
        act(with(SAYER, 3, 3), TELLS, 5, 16 ^ 3, 13, 11, 10);
        act(with(EARLY, 3, 3), SHARES, 5, -15, 12);
        act(with(LATE, 3, 3), SHARES, 5, -15, 12);
        act(with(LATE, 3, 3), TELLS, 5, -15, 31, 13, 11, 30, 10, 12);
        act(with(SURE, 0, 0), TELLS, 5, -15, 31, 13, 41, 11, 40, 30, 10, 40, 30, 10, 12);
        act(with(ALL, 1, 1), SHARES, 5, -15, 50, 12);
        act(with(TOLD, 4, 4), SHARES, 5, -15, 61, 12);
        SaidWeather x = with(LATE, 3, 3);
        act(x, SHARES, 5, -15, 12);
        act(x, SAYS, -8, -15, 30, 10);
        act(x, SAYS, 2, 15, 30, 10);
    }

    private static void actsWrap() {
        SaidWeather x = with(SAYER, 4, 3);
        act(x, SAYS, MAX, MIN + 3, 10);
        act(x, WAITS, MAX, 6, 11, 10);
        act(x, SHARES, MIN, MIN, 12);
        act(x, SHARES, MAX, -MAX, 12);
        x = with(ALL, 4, 3);
        act(x, SHARES, MAX, MAX ^ 1, 50, 12);
        x = with(LATE, 4, 3);
        act(x, SAYS, MAX, (MAX + 4) * 3, 30, 10);
        x = with(SURE, 0, 3);
        act(x, SAYS, MIN, -(MIN * 3), 40, 30, 10);
    }

    private static void actRefuses() {
        SaidWeather x = with(SAYER, 3, 7);
        x.sheet(0, 0, 3);
        x.shelf(1, 1, 0);
        int[][] calls = {{-1, 0}, {4, 0}, {MIN, 0}, {MAX, 0}, {2, -1}, {2, 4}, {2, MIN}, {2, MAX}, {0, 0}, {1, 0}};
        for (int[] call : calls) {
            Due.is("act", x.act(2, WAITS, 10), 26);
            Due.is("many(5)", x.many(5), 2);
            Due.is("act(" + call[0] + ", " + call[1] + ", 5)", x.act(call[0], call[1], 5), 0);
            Due.is("no TRACE then", x.many(5), 0);
            Due.is("no TRACE then", x.trace(0), -3);
        }
    }

    private static void many() {
        SaidWeather x = new SaidWeather();
        x.sayer(TOLD, 0);
        x.sayer(TOLD, 1);
        x.sayer(TOLD, 2);
        x.morning(2);
        x.prove(4);
        x.feed(0, 5);
        x.shelf(0, 0, 2);
        x.act(0, TELLS, 1);
        int[] want = {3, 6, 2, 4, 5, 4};
        for (int what = 0; what < 6; what++) {
            Due.is("many(" + what + ")", x.many(what), want[what]);
        }
        for (int bad : new int[] {-1, 6, MIN, MAX}) {
            Due.is("many(" + bad + ")", x.many(bad), -1);
        }
    }
}
