/** Promises 42 and 43: what is kept, and what it becomes again. */
public final class KeptTest {
    public static void main(String[] args) {
        nothingKept();
        allIsKept();
        whatIsNotKept();
        theLatest();
        aTextAfterKeeping();
        Due.end();
    }

    private static SaidWeather some() {
        SaidWeather x = new SaidWeather();
        x.sayer(1, 3);
        x.sayer(4, 8);
        x.sayer(2, 0);
        x.purse(1, 444);
        x.set(0, 55);
        x.set(1, 4);
        x.set(2, 3);
        x.set(3, 2);
        x.seed(-99);
        x.worth(7, 70);
        x.weigh(9, 2, 7);
        x.sign(11, 1);
        x.morning(3);
        return x;
    }

    private static void nothingKept() {
        SaidWeather x = some();
        String before = Look.at(x);
        Due.is("again()", x.again(), -3);
        Due.same("nothing changes", Look.at(x), before);
    }

    private static void allIsKept() {
        SaidWeather x = some();
        String before = Look.at(x);
        Due.is("keep()", x.keep(), 1);
        Due.same("nothing changes", Look.at(x), before);
        for (int round = 0; round < 2; round++) {
            x.mind(0, 5, 9);
            x.sayer(3, 3);
            x.purse(1, -1);
            x.say(2, 19, 3);
            for (int law = 0; law < 4; law++) {
                x.set(law, 1);
            }
            x.seed(5);
            for (int day = 0; day < 20; day++) {
                x.worth(day, 1);
                x.weigh(day, 0, 9);
                x.sign(day, 2);
            }
            x.morning(9);
            Due.is("again()", x.again(), 3);
            Due.same("as it was", Look.at(x), before);
        }
        SaidWeather y = some();
        x.morning(17);
        y.morning(17);
        Due.same("and goes on so", Look.at(x), Look.at(y));
    }

    private static void whatIsNotKept() {
        SaidWeather x = some();
        x.keep();
        x.feed(0, 3);
        x.prove(2);
        x.alterRow(0, 0, 9);
        x.sheet(1, 2, 4);
        x.put(1, 3, 33);
        x.shelf(0, 1, 1);
        x.shelf(1, 0, 2);
        x.act(1, 1, 4);
        String before = Look.at(x);
        Due.is("again()", x.again(), 3);
        Due.same("the rest stays as it is", Look.at(x), before);
        Due.is("THE TAPE", x.many(4), 3);
        Due.is("ROWS", x.row(0, 0), 9);
        Due.is("SHEETS", x.item(1, 2, 3), 33);
        Due.is("SHELVES", x.taken(0, 12), 4);
        Due.is("THE TRACE", x.many(5), 3);
    }

    private static void theLatest() {
        SaidWeather x = some();
        x.keep();
        x.morning(4);
        x.keep();
        String before = Look.at(x);
        x.morning(4);
        Due.is("again()", x.again(), 7);
        Due.same("the latest", Look.at(x), before);
        Due.is("which stays", x.again(), 7);
        x.morning(20);
        x.keep();
        Due.is("again()", x.again(), 20);
    }

    private static void aTextAfterKeeping() {
        SaidWeather x = some();
        x.keep();
        String before = Look.at(x);
        Due.is("a text", Due.read(x, "told 4; day 3 worth 9 of 9 9 9 0 sign 1; said 0 3 1; now 3;"), 1);
        Due.is("a text with a fault", Due.read(x, "told 4; told 3; told"), -120);
        Due.is("prove(20)", x.prove(20), 17);
        x.clerk();
        Due.is("again()", x.again(), 3);
        Due.same("as it was", Look.at(x), before);
    }
}
