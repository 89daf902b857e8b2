/** Whose weather it is: days belong to whoever foretold them first, and rightly. */
public final class SaidWeather {
    public static final int BAD = -1, FULL = -2, NONE = -3, STATE = -4;
    public static final long NO = -1000000000000L;

    private static final int NOTHING_THERE = -11, OUTSIDE = -12, OF_ANOTHER_SORT = -13;
    private static final int BELOW_ZERO = -14, PARTED_BY_ZERO = -15;
    private static final int NOT_YET = -9, NO_ROW = -2147483648;

    private static final int DAYS = 20, WEATHERS = 4, KINDS = 6, GREATEST_A = 9, AHEAD = 3;
    private static final int MOST_SAYERS = 5, MOST_SAYINGS = 40;
    private static final int GREATEST_WORTH = 99, GREATEST_WEIGHT = 9;
    private static final int GREATEST_PURSE = 9999, PURSE_SHIFT = 100000;
    private static final int MOST_BYTES = 240, MOST_BODIES = 30;
    private static final int ROW_PARTS = 3;
    private static final int SHEETS = 4, SHELVES = 4, SORTS = 4, MOST_ITEMS = 40, ROWS_FROM = 10;

    private static final int LAWS = 4, TENTH = 0, FINE = 1, PRICE = 2, SIGNS = 3;
    private static final int[] LAW_AT_FIRST = {10, 2, 1, 6};
    private static final int[] LAW_AT_MOST = {100, 99, 99, 20};

    private static final int SAYER = 0, EARLY = 1, LATE = 2, SURE = 3, ALL = 4, TOLD = 5;

    private final World world = new World();
    // Mornings that are only tried, and texts that may yet have a fault, happen here.
    private final World draft = new World();
    private final World kept = new World();
    private boolean isKept;

    private final Clerk reader = new Clerk();

    private final int[] rows = new int[DAYS * ROW_PARTS];
    private int rowCount;

    private final Sheet[] sheets = new Sheet[SHEETS];
    private final Sheet[] shelvedSheets = new Sheet[SHELVES];
    // Numbers and not things: a sayer on a shelf may change his kind, or go.
    private final int[] shelvedSayers = {-1, -1, -1, -1};
    private final Trace bodies = new Trace();

    public SaidWeather() {
    }

    // ---- days

    public int feed(long eight, int n) {
        if (n < 1 || n > 8) {
            return BAD;
        }
        if (reader.length + n > MOST_BYTES) {
            return FULL;
        }
        for (int i = 0; i < n; i++) {
            reader.addByte((byte) (eight >>> (8 * i)));
        }
        return reader.length;
    }

    public int clerk() {
        draft.become(world);
        draft.forgetAll();
        int fault = reader.readInto(draft);
        reader.length = 0;
        if (fault >= 0) {
            return -100 - fault;
        }
        world.become(draft);
        rowCount = 0;
        return world.sayerCount;
    }

    public int worth(int day, int v) {
        if (!isDay(day) || v < 0 || v > GREATEST_WORTH) {
            return BAD;
        }
        int old = world.worths[day];
        world.worths[day] = v;
        return old;
    }

    public int weigh(int day, int weather, int v) {
        if (!isDay(day) || !isWeather(weather) || v < 0 || v > GREATEST_WEIGHT) {
            return BAD;
        }
        int place = day * WEATHERS + weather;
        int old = world.weights[place];
        if (world.allWith(day, -1) - old + v == 0) {
            return STATE;
        }
        world.weights[place] = v;
        return old;
    }

    public int sign(int day, int weather) {
        if (!isDay(day) || weather < -1 || weather >= WEATHERS) {
            return BAD;
        }
        int old = world.signs[day];
        world.signs[day] = weather;
        return orNotYet(old);
    }

    public int dayOf(int day, int what) {
        if (!isDay(day)) {
            return BAD;
        }
        switch (what) {
            case 0:
                return world.worths[day];
            case 1:
                return orNotYet(world.signs[day]);
            case 2:
                return orNotYet(world.was[day]);
            case 3:
                return world.earn(day);
            case 4:
                return world.likeliest(day);
            case 5:
                return world.said[day];
            default:
                return isWeather(what - 6) ? world.weightOf(day, what - 6) : BAD;
        }
    }

    public int set(int law, int v) {
        if (law < 0 || law >= LAWS || v < 0 || v > LAW_AT_MOST[law]) {
            return BAD;
        }
        int old = world.laws[law];
        world.laws[law] = v;
        return old;
    }

    // ---- sayers, sayings

    public int sayer(int kind, int a) {
        if (!isKind(kind) || !isA(a)) {
            return BAD;
        }
        if (world.sayerCount >= MOST_SAYERS) {
            return FULL;
        }
        return world.addSayer(thingOf(kind, world.sayerCount, a));
    }

    public int sayerOf(int sayer, int what) {
        Sayer thing = world.sayerAt(sayer);
        if (thing == null) {
            return BAD;
        }
        switch (what) {
            case 0:
                return thing.kind;
            case 1:
                return thing.a;
            case 2:
                return world.purses[sayer] + PURSE_SHIFT;
            case 3:
                return world.sayingsOf(sayer);
            default:
                return BAD;
        }
    }

    public int mind(int sayer, int kind, int a) {
        Sayer thing = world.sayerAt(sayer);
        if (thing == null || !isKind(kind) || !isA(a)) {
            return BAD;
        }
        world.sayers[sayer] = thingOf(kind, sayer, a);
        return thing.kind;
    }

    public int purse(int sayer, int v) {
        if (world.sayerAt(sayer) == null || v < -GREATEST_PURSE || v > GREATEST_PURSE) {
            return BAD;
        }
        int old = world.purses[sayer];
        world.purses[sayer] = v;
        return old + PURSE_SHIFT;
    }

    public int say(int sayer, int day, int weather) {
        if (world.sayerAt(sayer) == null || !isComing(day) || !isWeather(weather)) {
            return BAD;
        }
        if (world.isSaid(day, weather)) {
            return STATE;
        }
        if (world.room() == 0) {
            return FULL;
        }
        return world.sellSaying(sayer, day, weather);
    }

    public int sayingOf(int saying, int what) {
        if (saying < 0 || saying >= world.sayingCount) {
            return BAD;
        }
        switch (what) {
            case 0:
                return world.sayingWho[saying];
            case 1:
                return world.sayingDay[saying];
            case 2:
                return world.sayingWeather[saying];
            case 3:
                if (!world.isOver(world.sayingDay[saying])) {
                    return 0;
                }
                return world.isRight(saying) ? 1 : 2;
            default:
                return BAD;
        }
    }

    public int would(int sayer, int what) {
        Sayer thing = world.sayerAt(sayer);
        if (thing == null || what < 0 || what > 2) {
            return BAD;
        }
        int day = world.dayToSay(thing);
        if (day < 0) {
            return what == 2 ? 0 : NONE;
        }
        switch (what) {
            case 0:
                return day;
            case 1:
                return thing.firstWeather(world, day);
            default:
                return world.sayingsAtOnce(thing);
        }
    }

    public int morning(int n) {
        if (n < 0 || n > DAYS) {
            return BAD;
        }
        for (int i = 0; i < n; i++) {
            world.dawn();
        }
        return world.today;
    }

    public int now() {
        return world.today;
    }

    public int owner(int day) {
        if (!isDay(day)) {
            return BAD;
        }
        int who = world.ownerOf(day);
        return who < 0 ? NONE : who;
    }

    // ---- what it is worth

    public int odds(int day, int weather, int part) {
        if (!isComing(day) || !isWeather(weather) || !isPart(part)) {
            return BAD;
        }
        return (int) partOf(world.weightOf(day, weather), world.allOf(day), part);
    }

    public long gain(int day, int weather, int part) {
        if (!isComing(day) || !isWeather(weather) || !isPart(part) || world.isSaid(day, weather)) {
            return NO;
        }
        return partOf(world.gainTimesAll(day, weather, world.signs[day]), world.allOf(day), part);
    }

    public long waited(int day, int part) {
        if (!isDay(day) || !isPart(part) || world.signs[day] >= 0 || day <= world.today + AHEAD) {
            return NO;
        }
        long above = 0;
        for (int sign = 0; sign < WEATHERS; sign++) {
            above += world.weights[day * WEATHERS + sign] * world.bestTimesAll(day, sign);
        }
        // Whichever the sign will be, all weights together are the same then.
        long below = (long) world.allWith(day, -1) * world.allWith(day, 0);
        return partOf(above, below, part);
    }

    public int best(int what) {
        if (what != 0 && what != 1) {
            return BAD;
        }
        int place = world.bestPlace();
        if (place < 0) {
            return NONE;
        }
        return what == 0 ? place / WEATHERS : place % WEATHERS;
    }

    public long whole(int day, int part) {
        if (!isComing(day) || !isPart(part)) {
            return NO;
        }
        long above = 0;
        for (int weather = 0; weather < WEATHERS; weather++) {
            if (!world.isSaid(day, weather)) {
                above += world.gainTimesAll(day, weather, world.signs[day]);
            }
        }
        return partOf(above, world.allOf(day), part);
    }

    public long owed(int sayer) {
        if (world.sayerAt(sayer) == null) {
            return NO;
        }
        long thousandths = 1000L * world.purses[sayer];
        for (int saying = 0; saying < world.sayingCount; saying++) {
            if (world.sayingWho[saying] == sayer) {
                thousandths += world.owedFor(saying);
            }
        }
        return thousandths;
    }

    public int believed(int sayer, int part) {
        if (world.sayerAt(sayer) == null || !isPart(part)) {
            return BAD;
        }
        int over = world.overOf(sayer);
        return over == 0 ? part : (int) partOf(world.rightOf(sayer), over, part);
    }

    public int whom() {
        int whom = NONE;
        int bestRight = 0;
        int bestOver = 1;
        for (int sayer = 0; sayer < world.sayerCount; sayer++) {
            int right = world.rightOf(sayer);
            int over = Math.max(1, world.overOf(sayer));
            if (whom < 0 || right * bestOver > bestRight * over) {
                whom = sayer;
                bestRight = right;
                bestOver = over;
            }
        }
        return whom;
    }

    public int open() {
        int set = 0;
        for (int day = world.today; day < DAYS; day++) {
            if (world.said[day] == 0) {
                set |= 1 << day;
            }
        }
        return set;
    }

    public int seed(int v) {
        int old = world.z;
        world.z = v;
        return old;
    }

    // ---- rows

    public int prove(int n) {
        if (n < 1 || n > DAYS) {
            return BAD;
        }
        draft.become(world);
        rowCount = Math.min(n, DAYS - world.today);
        for (int i = 0; i < rowCount; i++) {
            draft.dawn();
            for (int what = 0; what < ROW_PARTS; what++) {
                rows[i * ROW_PARTS + what] = draft.latestMorning(what);
            }
        }
        return rowCount;
    }

    public int row(int i, int what) {
        return isInRow(i, what) ? rows[i * ROW_PARTS + what] : NO_ROW;
    }

    public int alterRow(int i, int what, int v) {
        if (!isInRow(i, what)) {
            return NO_ROW;
        }
        int old = rows[i * ROW_PARTS + what];
        rows[i * ROW_PARTS + what] = v;
        return old;
    }

    public int judge() {
        draft.become(world);
        for (int i = 0; i < rowCount; i++) {
            if (draft.today >= DAYS) {
                return i + 1;
            }
            draft.dawn();
            for (int what = 0; what < ROW_PARTS; what++) {
                if (rows[i * ROW_PARTS + what] != draft.latestMorning(what)) {
                    return i + 1;
                }
            }
        }
        return 0;
    }

    public int worths(int sheet, int i, int day, int n) {
        if (!isSheet(sheet) || !isDay(day) || n < 0 || n > DAYS - day) {
            return BAD;
        }
        Sheet bytes = sheets[sheet];
        if (bytes == null) {
            return NOTHING_THERE;
        }
        if (bytes.sort != 0) {
            return OF_ANOTHER_SORT;
        }
        if (i < 0 || i > bytes.items.length - n) {
            return OUTSIDE;
        }
        for (int k = 0; k < n; k++) {
            int v = (int) bytes.items[i + k];
            world.worths[day + k] = Math.max(0, Math.min(GREATEST_WORTH, v));
        }
        return n;
    }

    // ---- the host

    public int sheet(int sheet, int sort, int n) {
        if (!isSheet(sheet) || sort < -1 || sort >= SORTS) {
            return BAD;
        }
        if (sort == -1) {
            sheets[sheet] = null;
            return 1;
        }
        if (n > MOST_ITEMS) {
            return BAD;
        }
        if (n < 0) {
            return BELOW_ZERO;
        }
        sheets[sheet] = new Sheet(sort, new long[n]);
        return 1;
    }

    public int put(int sheet, int i, int v) {
        if (!isSheet(sheet)) {
            return BAD;
        }
        Sheet row = sheets[sheet];
        if (row == null) {
            return NOTHING_THERE;
        }
        if (i < 0 || i >= row.items.length) {
            return OUTSIDE;
        }
        row.items[i] = row.narrowed(v);
        return 1;
    }

    public int item(int sheet, int sort, int i) {
        if (!isSheet(sheet) || sort < 0 || sort >= SORTS) {
            return BAD;
        }
        Sheet row = sheets[sheet];
        if (row == null) {
            return NOTHING_THERE;
        }
        if (row.sort != sort) {
            return OF_ANOTHER_SORT;
        }
        if (i < 0 || i >= row.items.length) {
            return OUTSIDE;
        }
        return (int) row.items[i];
    }

    public int shelf(int shelf, int what, int n) {
        if (!isShelf(shelf) || what < 0 || what > 2) {
            return BAD;
        }
        if (what == 0 && world.sayerAt(n) == null) {
            return BAD;
        }
        if (what == 1 && !isSheet(n)) {
            return BAD;
        }
        shelvedSayers[shelf] = what == 0 ? n : -1;
        shelvedSheets[shelf] = what == 1 && isSheet(n) ? sheets[n] : null;
        return 1;
    }

    public int taken(int shelf, int as) {
        boolean asKind = isKind(as);
        boolean asRow = as >= ROWS_FROM && as < ROWS_FROM + SORTS;
        if (!isShelf(shelf) || !asKind && !asRow) {
            return BAD;
        }
        Sayer thing = world.sayerAt(shelvedSayers[shelf]);
        Sheet row = shelvedSheets[shelf];
        if (thing != null) {
            return asKind && isUnder(thing, as) ? thing.number : OF_ANOTHER_SORT;
        }
        if (row != null) {
            return asRow && row.sort == as - ROWS_FROM ? row.items.length : OF_ANOTHER_SORT;
        }
        return NOTHING_THERE;
    }

    public int act(int shelf, int act, int x) {
        bodies.clear();
        Sayer thing = isShelf(shelf) ? world.sayerAt(shelvedSayers[shelf]) : null;
        if (thing == null) {
            return 0;
        }
        int answer = 0;
        switch (act) {
            case 0:
                answer = thing.says(x, bodies);
                break;
            case 1:
                answer = thing.waits(x, bodies);
                break;
            case 2:
                answer = thing.shares(x, bodies);
                break;
            case 3:
                answer = thing.tells(x, bodies);
                break;
            default:
                break;
        }
        return bodies.isBroken ? PARTED_BY_ZERO : answer;
    }

    public int trace(int i) {
        return i >= 0 && i < bodies.count ? bodies.numbers[i] : NONE;
    }

    public int many(int what) {
        switch (what) {
            case 0:
                return world.sayerCount;
            case 1:
                return world.sayingCount;
            case 2:
                return world.today;
            case 3:
                return rowCount;
            case 4:
                return reader.length;
            case 5:
                return bodies.count;
            default:
                return BAD;
        }
    }

    // ---- kept

    public int keep() {
        kept.become(world);
        isKept = true;
        return 1;
    }

    public int again() {
        if (!isKept) {
            return NONE;
        }
        world.become(kept);
        return world.today;
    }

    // ---- what the calls ask of their numbers

    private static boolean isDay(int day) {
        return day >= 0 && day < DAYS;
    }

    private boolean isComing(int day) {
        return isDay(day) && !world.isOver(day);
    }

    private static boolean isWeather(int weather) {
        return weather >= 0 && weather < WEATHERS;
    }

    private static boolean isKind(int kind) {
        return kind >= 0 && kind < KINDS;
    }

    private static boolean isA(int a) {
        return a >= 0 && a <= GREATEST_A;
    }

    private static boolean isPart(int part) {
        return part == 0 || part == 1;
    }

    private static boolean isSheet(int sheet) {
        return sheet >= 0 && sheet < SHEETS;
    }

    private static boolean isShelf(int shelf) {
        return shelf >= 0 && shelf < SHELVES;
    }

    private boolean isInRow(int i, int what) {
        return i >= 0 && i < rowCount && what >= 0 && what < ROW_PARTS;
    }

    private static int orNotYet(int weather) {
        return weather < 0 ? NOT_YET : weather;
    }

    /** One part of above by below without a common divisor; below is above 0. */
    private static long partOf(long above, long below, int part) {
        long divisor = commonDivisor(Math.abs(above), below);
        if (divisor == 0) {
            return part;
        }
        return (part == 0 ? above : below) / divisor;
    }

    private static long commonDivisor(long first, long second) {
        long a = first;
        long b = second;
        // No two longs take a hundred steps.
        for (int step = 0; step < 100 && b != 0; step++) {
            long rest = a % b;
            a = b;
            b = rest;
        }
        return a;
    }

    private static boolean isUnder(Sayer thing, int kind) {
        switch (kind) {
            case SAYER:
                return true;
            case EARLY:
                return thing instanceof Early;
            case LATE:
                return thing instanceof Late;
            case SURE:
                return thing instanceof Sure;
            case ALL:
                return thing instanceof All;
            case TOLD:
                return thing instanceof Told;
            default:
                return false;
        }
    }

    private static Sayer thingOf(int kind, int number, int a) {
        switch (kind) {
            case EARLY:
                return new Early(EARLY, number, a);
            case LATE:
                return new Late(LATE, number, a);
            case SURE:
                return new Sure(number, a);
            case ALL:
                return new All(number, a);
            case TOLD:
                return new Told(number, a);
            default:
                return new Sayer(SAYER, number, a);
        }
    }

    /** All that is kept: days, laws, z, sayers and sayings. */
    private static final class World {
        final int[] worths = new int[DAYS];
        final int[] weights = new int[DAYS * WEATHERS];
        // -1 stands for none and for not yet.
        final int[] signs = new int[DAYS];
        final int[] was = new int[DAYS];
        // The weathers said of each day, by bits: all that most questions ask of the sayings.
        final int[] said = new int[DAYS];
        final int[] laws = LAW_AT_FIRST.clone();
        int today;
        int z = 1;

        // Things never change, so that worlds can share them.
        final Sayer[] sayers = new Sayer[MOST_SAYERS];
        final int[] purses = new int[MOST_SAYERS];
        int sayerCount;

        final int[] sayingWho = new int[MOST_SAYINGS];
        final int[] sayingDay = new int[MOST_SAYINGS];
        final int[] sayingWeather = new int[MOST_SAYINGS];
        int sayingCount;

        World() {
            forgetAll();
        }

        /** All as at first, but for laws and z. */
        void forgetAll() {
            for (int day = 0; day < DAYS; day++) {
                forgetDay(day);
                was[day] = -1;
                said[day] = 0;
            }
            today = 0;
            sayerCount = 0;
            sayingCount = 0;
        }

        void forgetDay(int day) {
            worths[day] = 10;
            signs[day] = -1;
            for (int weather = 0; weather < WEATHERS; weather++) {
                weights[day * WEATHERS + weather] = 1;
            }
        }

        void become(World other) {
            System.arraycopy(other.worths, 0, worths, 0, DAYS);
            System.arraycopy(other.weights, 0, weights, 0, DAYS * WEATHERS);
            System.arraycopy(other.signs, 0, signs, 0, DAYS);
            System.arraycopy(other.was, 0, was, 0, DAYS);
            System.arraycopy(other.said, 0, said, 0, DAYS);
            System.arraycopy(other.laws, 0, laws, 0, LAWS);
            today = other.today;
            z = other.z;
            for (int i = 0; i < MOST_SAYERS; i++) {
                sayers[i] = other.sayers[i];
            }
            System.arraycopy(other.purses, 0, purses, 0, MOST_SAYERS);
            sayerCount = other.sayerCount;
            System.arraycopy(other.sayingWho, 0, sayingWho, 0, MOST_SAYINGS);
            System.arraycopy(other.sayingDay, 0, sayingDay, 0, MOST_SAYINGS);
            System.arraycopy(other.sayingWeather, 0, sayingWeather, 0, MOST_SAYINGS);
            sayingCount = other.sayingCount;
        }

        // -- days

        boolean isOver(int day) {
            return day < today;
        }

        int weightWith(int day, int weather, int sign) {
            int weight = weights[day * WEATHERS + weather];
            return weather == sign ? weight + laws[SIGNS] : weight;
        }

        int allWith(int day, int sign) {
            int all = 0;
            for (int weather = 0; weather < WEATHERS; weather++) {
                all += weightWith(day, weather, sign);
            }
            return all;
        }

        int weightOf(int day, int weather) {
            return weightWith(day, weather, signs[day]);
        }

        int allOf(int day) {
            return allWith(day, signs[day]);
        }

        int earn(int day) {
            return worths[day] * laws[TENTH] / 100;
        }

        int likeliest(int day) {
            int likeliest = 0;
            int greatest = -1;
            for (int weather = 0; weather < WEATHERS; weather++) {
                int weight = weightWith(day, weather, signs[day]);
                if (weight > greatest) {
                    likeliest = weather;
                    greatest = weight;
                }
            }
            return likeliest;
        }

        /** The last day from today on, reach days ahead at most, of which nobody said anything; -1: none. */
        int lastOpenDay(int reach) {
            for (int day = Math.min(DAYS - 1, today + reach); day >= today; day--) {
                if (said[day] == 0) {
                    return day;
                }
            }
            return -1;
        }

        // -- sayers and sayings

        Sayer sayerAt(int i) {
            return i >= 0 && i < sayerCount ? sayers[i] : null;
        }

        /** Only where there is room, and one whose number is how many there are. */
        int addSayer(Sayer sayer) {
            int number = sayerCount;
            sayers[number] = sayer;
            purses[number] = 0;
            sayerCount++;
            return number;
        }

        boolean isSaid(int day, int weather) {
            return (said[day] >> weather & 1) == 1;
        }

        int room() {
            return MOST_SAYINGS - sayingCount;
        }

        /** Only where there is room. */
        int addSaying(int sayer, int day, int weather) {
            int number = sayingCount;
            sayingWho[number] = sayer;
            sayingDay[number] = day;
            sayingWeather[number] = weather;
            said[day] |= 1 << weather;
            sayingCount++;
            return number;
        }

        int sellSaying(int sayer, int day, int weather) {
            purses[sayer] -= laws[PRICE];
            return addSaying(sayer, day, weather);
        }

        int sayingsOf(int sayer) {
            int count = 0;
            for (int saying = 0; saying < sayingCount; saying++) {
                if (sayingWho[saying] == sayer) {
                    count++;
                }
            }
            return count;
        }

        boolean isRight(int saying) {
            int day = sayingDay[saying];
            return isOver(day) && was[day] == sayingWeather[saying];
        }

        int overOf(int sayer) {
            int count = 0;
            for (int saying = 0; saying < sayingCount; saying++) {
                if (sayingWho[saying] == sayer && isOver(sayingDay[saying])) {
                    count++;
                }
            }
            return count;
        }

        int rightOf(int sayer) {
            int count = 0;
            for (int saying = 0; saying < sayingCount; saying++) {
                if (sayingWho[saying] == sayer && isRight(saying)) {
                    count++;
                }
            }
            return count;
        }

        /** Who said what a day was; -1: nobody, or it isn't over. */
        int ownerOf(int day) {
            for (int saying = 0; saying < sayingCount; saying++) {
                if (sayingDay[saying] == day && isRight(saying)) {
                    return sayingWho[saying];
                }
            }
            return -1;
        }

        int pursesTogether() {
            int sum = 0;
            for (int sayer = 0; sayer < sayerCount; sayer++) {
                sum += purses[sayer];
            }
            return sum;
        }

        // -- mornings

        /** The day of which a sayer would say something this morning; -1: none. */
        int dayToSay(Sayer sayer) {
            return today >= DAYS || room() == 0 ? -1 : sayer.chosenDay(this);
        }

        int sayingsAtOnce(Sayer sayer) {
            return Math.min(sayer.breadth(), room());
        }

        void dawn() {
            if (today >= DAYS) {
                return;
            }
            for (int i = 0; i < sayerCount; i++) {
                Sayer sayer = sayers[i];
                if (sayer != null) {
                    letSpeak(sayer);
                }
            }
            was[today] = drawn(today);
            today++;
            settle(today - 1);
            int ahead = today + AHEAD;
            if (ahead < DAYS && signs[ahead] < 0) {
                signs[ahead] = drawn(ahead);
            }
        }

        void letSpeak(Sayer sayer) {
            int day = dayToSay(sayer);
            if (day < 0) {
                return;
            }
            int first = sayer.firstWeather(this, day);
            int end = Math.min(WEATHERS, first + sayingsAtOnce(sayer));
            for (int weather = first; weather < end; weather++) {
                sellSaying(sayer.number, day, weather);
            }
        }

        /** z goes on: the weather that it finds for a day. */
        int drawn(int day) {
            z = z * 1103515245 + 12345;
            int all = allOf(day);
            int mark = all > 0 ? (z >>> 16) % all : 0;
            int together = 0;
            for (int weather = 0; weather < WEATHERS - 1; weather++) {
                together += weightOf(day, weather);
                if (mark < together) {
                    return weather;
                }
            }
            return WEATHERS - 1;
        }

        void settle(int day) {
            for (int saying = 0; saying < sayingCount; saying++) {
                if (sayingDay[saying] == day) {
                    purses[sayingWho[saying]] += isRight(saying) ? earn(day) : -laws[FINE];
                }
            }
        }

        /** A part of the row of the morning that was the latest. */
        int latestMorning(int what) {
            int day = today - 1;
            if (day < 0) {
                return 0;
            }
            switch (what) {
                case 0:
                    return was[day];
                case 1:
                    return ownerOf(day) + 1;
                default:
                    return pursesTogether();
            }
        }

        // -- what it is worth

        int takingsTimesAll(int day, int weather, int sign) {
            int weight = weightWith(day, weather, sign);
            return earn(day) * weight - laws[FINE] * (allWith(day, sign) - weight);
        }

        long gainTimesAll(int day, int weather, int sign) {
            return takingsTimesAll(day, weather, sign) - laws[PRICE] * allWith(day, sign);
        }

        /** The best gain with that sign, or 0 by saying nothing. */
        long bestTimesAll(int day, int sign) {
            long best = 0;
            for (int weather = 0; weather < WEATHERS; weather++) {
                if (!isSaid(day, weather)) {
                    best = Math.max(best, gainTimesAll(day, weather, sign));
                }
            }
            return best;
        }

        /** The best saying, as its day times 4 and its weather; -1: all is said. */
        int bestPlace() {
            int place = -1;
            long bestAbove = 0;
            long bestBelow = 1;
            for (int i = today * WEATHERS; i < DAYS * WEATHERS; i++) {
                int day = i / WEATHERS;
                if (!isSaid(day, i % WEATHERS)) {
                    long above = gainTimesAll(day, i % WEATHERS, signs[day]);
                    long below = allOf(day);
                    if (place < 0 || above * bestBelow > bestAbove * below) {
                        place = i;
                        bestAbove = above;
                        bestBelow = below;
                    }
                }
            }
            return place;
        }

        /** What a saying brings on average when its day comes, in thousandths; 0 if that is over. */
        long owedFor(int saying) {
            int day = sayingDay[saying];
            int all = allOf(day);
            if (isOver(day) || all <= 0) {
                return 0;
            }
            return 1000L * takingsTimesAll(day, sayingWeather[saying], signs[day]) / all;
        }
    }

    /** The bodies that ran in one act, as far as it came. */
    private static final class Trace {
        final int[] numbers = new int[MOST_BODIES];
        int count;
        // Once something was parted by 0, no further body counts as run.
        boolean isBroken;

        void clear() {
            count = 0;
            isBroken = false;
        }

        void begin(int body) {
            if (!isBroken && count < MOST_BODIES) {
                numbers[count] = body;
                count++;
            }
        }
    }

    private static class Sayer {
        final int kind;
        final int number;
        final int a;

        Sayer(int kind, int number, int a) {
            this.kind = kind;
            this.number = number;
            this.a = a;
        }

        /** The day of which he would say something, where there is room and a day to come; -1: none. */
        int chosenDay(World world) {
            return -1;
        }

        int firstWeather(World world, int day) {
            return world.likeliest(day);
        }

        int breadth() {
            return 1;
        }

        int says(int x, Trace trace) {
            // As begin() does, but without a call: in a sure one's tells this is the eighth already.
            if (!trace.isBroken && trace.count < MOST_BODIES) {
                trace.numbers[trace.count] = 10;
                trace.count++;
            }
            return x + number;
        }

        int waits(int x, Trace trace) {
            trace.begin(11);
            return says(x, trace) * 2;
        }

        int shares(int x, Trace trace) {
            trace.begin(12);
            int by = a - number;
            if (by == 0) {
                trace.isBroken = true;
                return 0;
            }
            return x / by;
        }

        int tells(int x, Trace trace) {
            trace.begin(13);
            return waits(x, trace) ^ a;
        }
    }

    private static class Early extends Sayer {
        Early(int kind, int number, int a) {
            super(kind, number, a);
        }

        int chosenDay(World world) {
            return world.lastOpenDay(a);
        }

        int waits(int x, Trace trace) {
            trace.begin(20);
            return super.waits(x, trace) - a;
        }
    }

    private static final class All extends Early {
        All(int number, int a) {
            super(ALL, number, a);
        }

        int firstWeather(World world, int day) {
            return 0;
        }

        int breadth() {
            return WEATHERS;
        }

        int shares(int x, Trace trace) {
            trace.begin(50);
            return super.shares(x + 2, trace) ^ 1;
        }

        int says(int x, Trace trace) {
            trace.begin(51);
            return super.says(x, trace) - number;
        }
    }

    private static class Late extends Sayer {
        Late(int kind, int number, int a) {
            super(kind, number, a);
        }

        int chosenDay(World world) {
            return world.isSaid(world.today, world.likeliest(world.today)) ? -1 : world.today;
        }

        int says(int x, Trace trace) {
            trace.begin(30);
            return super.says(x, trace) * 3;
        }

        int tells(int x, Trace trace) {
            trace.begin(31);
            return super.tells(x, trace) + shares(number, trace);
        }
    }

    private static final class Sure extends Late {
        Sure(int number, int a) {
            super(SURE, number, a);
        }

        int chosenDay(World world) {
            int day = world.today;
            int weight = world.weightOf(day, world.likeliest(day));
            return 10 * weight >= a * world.allOf(day) ? super.chosenDay(world) : -1;
        }

        int says(int x, Trace trace) {
            trace.begin(40);
            return 0 - super.says(x, trace);
        }

        int waits(int x, Trace trace) {
            trace.begin(41);
            return super.waits(x, trace) + says(number, trace);
        }
    }

    private static final class Told extends Sayer {
        Told(int number, int a) {
            super(TOLD, number, a);
        }

        int chosenDay(World world) {
            return world.isSaid(world.today, a % WEATHERS) ? -1 : world.today;
        }

        int firstWeather(World world, int day) {
            return a % WEATHERS;
        }

        int tells(int x, Trace trace) {
            trace.begin(60);
            return super.tells(x, trace) * 2;
        }

        int shares(int x, Trace trace) {
            trace.begin(61);
            return super.shares(x, trace) + says(a, trace);
        }
    }

    /** The tape, and the reading of it. After the first fault nothing more is taken. */
    private static final class Clerk {
        static final int END = 0, NAME = 1, NUMBER = 2, OTHER = 3;

        final byte[] tape = new byte[MOST_BYTES];
        int length;

        // The word that comes next: what it is, its first byte, and the byte behind it.
        int sort;
        int from;
        int to;
        int fault;

        void addByte(byte b) {
            if (length < MOST_BYTES) {
                tape[length] = b;
                length++;
            }
        }

        /** Tells a world that is as at first: the place of the fault; -1: none. */
        int readInto(World world) {
            fault = -1;
            to = 0;
            step();
            // Each thing told takes a byte at least.
            for (int i = 0; i < MOST_BYTES && sort != END && fault < 0; i++) {
                readThing(world);
            }
            return fault;
        }

        void readThing(World world) {
            int kind = kindNamed();
            if (kind >= 0) {
                readSayer(world, kind);
            } else if (isName("day")) {
                readDay(world);
            } else if (isName("said")) {
                readSaying(world);
            } else if (isName("now")) {
                step();
                world.today = takeNumber(DAYS);
            } else {
                fault = from;
            }
            takeSemicolon();
        }

        int kindNamed() {
            if (isName("sayer")) {
                return SAYER;
            }
            if (isName("early")) {
                return EARLY;
            }
            if (isName("late")) {
                return LATE;
            }
            if (isName("sure")) {
                return SURE;
            }
            if (isName("all")) {
                return ALL;
            }
            return isName("told") ? TOLD : -1;
        }

        void readSayer(World world, int kind) {
            if (world.sayerCount >= MOST_SAYERS) {
                fault = from;
                return;
            }
            step();
            int a = takeNumber(GREATEST_A);
            if (fault < 0) {
                world.addSayer(thingOf(kind, world.sayerCount, a));
            }
        }

        void readSaying(World world) {
            if (world.room() == 0) {
                fault = from;
                return;
            }
            step();
            int sayer = takeNumber(world.sayerCount - 1);
            int day = takeNumber(DAYS - 1);
            int place = from;
            int weather = takeNumber(WEATHERS - 1);
            if (fault >= 0) {
                return;
            }
            if (world.isSaid(day, weather)) {
                fault = place;
                return;
            }
            world.addSaying(sayer, day, weather);
        }

        void readDay(World world) {
            step();
            int day = takeNumber(DAYS - 1);
            takeWorthName();
            int worth = takeNumber(GREATEST_WORTH);
            if (fault >= 0) {
                return;
            }
            world.forgetDay(day);
            world.worths[day] = worth;
            if (isName("of")) {
                step();
                readWeights(world, day);
            }
            if (fault < 0 && isName("sign")) {
                step();
                world.signs[day] = takeNumber(WEATHERS - 1);
            }
        }

        void readWeights(World world, int day) {
            int place = from;
            for (int weather = 0; weather < WEATHERS; weather++) {
                place = from;
                world.weights[day * WEATHERS + weather] = takeNumber(GREATEST_WEIGHT);
            }
            if (fault < 0 && world.allWith(day, -1) == 0) {
                fault = place;
            }
        }

        void takeWorthName() {
            if (fault >= 0) {
                return;
            }
            if (!isName("worth")) {
                fault = from;
                return;
            }
            step();
        }

        void takeSemicolon() {
            if (fault >= 0) {
                return;
            }
            if (sort != OTHER || tape[from] != ';') {
                fault = from;
                return;
            }
            step();
        }

        /** The number that comes next; 0, and a fault, where there is none up to most. */
        int takeNumber(int most) {
            if (fault >= 0) {
                return 0;
            }
            int value = sort == NUMBER ? valueOfNext() : -1;
            if (value < 0 || value > most) {
                fault = from;
                return 0;
            }
            step();
            return value;
        }

        int valueOfNext() {
            if (to - from > 2) {
                return -1;
            }
            int value = 0;
            for (int i = from; i < to; i++) {
                value = value * 10 + tape[i] - '0';
            }
            return value;
        }

        boolean isName(String name) {
            if (sort != NAME || to - from != name.length()) {
                return false;
            }
            for (int i = from; i < to; i++) {
                if (tape[i] != name.charAt(i - from)) {
                    return false;
                }
            }
            return true;
        }

        void step() {
            from = to;
            while (from < length && tape[from] == ' ') {
                from++;
            }
            to = from;
            if (from >= length) {
                sort = END;
                return;
            }
            sort = sortOf(tape[from]);
            to++;
            while (sort != OTHER && to < length && sortOf(tape[to]) == sort) {
                to++;
            }
        }

        static int sortOf(byte b) {
            if (b >= 'a' && b <= 'z') {
                return NAME;
            }
            return b >= '0' && b <= '9' ? NUMBER : OTHER;
        }
    }

    /** A row of bytes, shorts, ints or longs; held as longs, since only its sort tells them apart. */
    private static final class Sheet {
        final int sort;
        final long[] items;

        Sheet(int sort, long[] items) {
            this.sort = sort;
            this.items = items;
        }

        long narrowed(int v) {
            switch (sort) {
                case 0:
                    return (byte) v;
                case 1:
                    return (short) v;
                default:
                    return v;
            }
        }
    }
}
