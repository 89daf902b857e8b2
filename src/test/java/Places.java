/** Objects that have come to places where much is asked; each call makes the same one anew. */
final class Places {
    static final int SAYER = 0, EARLY = 1, LATE = 2, SURE = 3, ALL = 4, TOLD = 5;

    private Places() {
    }

    /** All four WEIGHTS of a DAY; they are never all 0 in between. */
    static void weights(SaidWeather x, int day, int... weights) {
        for (int weather = 0; weather < 4; weather++) {
            x.weigh(day, weather, 9);
        }
        for (int weather = 0; weather < 4; weather++) {
            x.weigh(day, weather, weights[weather]);
        }
    }

    /** A DAY that can only become one WEATHER. */
    static void certain(SaidWeather x, int day, int weather) {
        int[] weights = new int[4];
        weights[weather] = 9;
        weights(x, day, weights);
    }

    /** Something of all there is, and room for more: NOW 2, four SAYERS, five SAYINGS, five ROWS. */
    static SaidWeather some() {
        SaidWeather x = new SaidWeather();
        x.seed(77);
        x.sayer(SAYER, 4);
        x.sayer(LATE, 1);
        x.keep();
        x.sayer(SURE, 3);
        x.sayer(TOLD, 6);
        certain(x, 9, 2);
        x.sign(12, 1);
        x.worth(13, 98);
        x.set(0, 60);
        x.set(3, 5);
        x.morning(1);
        x.say(0, 7, 3);
        x.morning(1);
        x.mind(2, EARLY, 5);
        x.purse(3, -20);
        for (int sort = 0; sort < 4; sort++) {
            x.sheet(sort, sort, 6 - sort);
            x.put(sort, 1, 50 + sort);
        }
        x.shelf(0, 0, 2);
        x.shelf(1, 1, 2);
        x.shelf(3, 0, 0);
        x.prove(5);
        x.act(0, 3, 9);
        Due.feed(x, "late 3; n");
        return x;
    }

    /** As many as there can be: five SAYERS, forty SAYINGS, 240 bytes, twenty ROWS. */
    static SaidWeather full() {
        SaidWeather x = new SaidWeather();
        for (int i = 0; i < 5; i++) {
            x.sayer(i, i + 2);
        }
        for (int i = 0; i < 40; i++) {
            x.say(i % 5, 19 - i / 4, i % 4);
        }
        x.prove(20);
        x.keep();
        x.worth(3, 3);
        x.shelf(0, 0, 4);
        Due.feed(x, " ".repeat(232) + "told 09;");
        return x;
    }

    /** In the end: NOW 20. */
    static SaidWeather ended() {
        SaidWeather x = new SaidWeather();
        for (int kind = 1; kind <= 4; kind++) {
            x.sayer(kind, 1);
        }
        x.morning(10);
        x.prove(4);
        x.keep();
        x.morning(10);
        return x;
    }
}
