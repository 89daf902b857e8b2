/**
 * The places of a FAULT, by tables: each NUMBER of a text at both ends of its range, a text cut off
 * at each place, and a byte that can't stand there at each place.
 */
public final class FaultsTest {
    private static final String ALL_KINDS = "sayer 0;early 5;late 0;sure 7;all 9; ";
    private static final String WHOLE = " early 5 ;told 0;day 13 worth 42 of 1 2 0 9 sign 1;"
        + "day4 worth 07; day 19 worth 99 of 0 0 0 1; day 0 worth 5 sign 03 ; said 1 17 1;said 00 1 2;now 12; ";

    private FaultsTest() {
    }

    public static void main(String[] args) {
        numbersOfDays();
        numbersOfSayersAndNow();
        numbersOfSayings();
        cutOffAtEachPlace();
        aByteAtEachPlace();
        blanksAtEachPlace();
        bytesThatAreNoBlanks();
        weightsOfZero();
        saidAhead();
        aSixthSayer();
        namesWhereTheyCannotStand();
        Due.end();
    }

    private static int reads(String text) {
        return Due.read(new SaidWeather(), text);
    }

    private static void faultAt(String text, int place) {
        Due.is("'" + text + "'", reads(text), -100 - place);
    }

    private static void isTaken(String text) {
        Due.is("'" + text + "' is taken", reads(text) >= 0 ? 1 : 0, 1);
    }

    /** The number stands where the text has an '@'; from 0 to most it is taken. */
    private static void number(String text, int most) {
        int place = text.indexOf('@');
        String ahead = text.substring(0, place);
        String behind = text.substring(place + 1);
        boolean isLast = !behind.startsWith(" 1");
        for (String v : new String[] {"0", "00", "" + most, (most < 10 ? "0" : "") + most}) {
            int end = place + v.length();
            isTaken(ahead + v + behind);
            faultAt(ahead + v, end);
            faultAt(ahead + v + "  ", end + 2);
            if (isLast) {
                faultAt(ahead + v + " 1" + behind, end + 1);
            }
        }
        String[] off = {"" + (most + 1), "99" + most, "000", "00" + most, "0000000000000000000", "4294967296",
            "a", "-1", "+1", "x1", ";", "\u00b1"};
        for (String v : off) {
            faultAt(ahead + v + behind, place);
            faultAt(ahead + v, place);
        }
        if (isLast) {
            faultAt(ahead + behind, place + behind.length() - behind.stripLeading().length());
        }
        faultAt(ahead, place);
        faultAt(ahead + "  ", place + 2);
    }

    private static void numbersOfDays() {
        number("day @ worth 1;", 19);
        number("now 3; day 5 worth @;", 99);
        number("day 5 worth @ of 1 1 1 1 sign 0;", 99);
        number("day 5 worth 1 of 1 1 1 @;", 9);
        number("day 5 worth 1 of 1 1 1 @ sign 2;", 9);
        number("day 5 worth 1 sign @;", 3);
        number("day 5 worth 1 of 1 1 1 1 sign @;", 3);
        for (int weight = 0; weight < 3; weight++) {
            StringBuilder text = new StringBuilder("day 5 worth 1 of");
            for (int i = 0; i < 4; i++) {
                text.append(i == weight ? " @" : " 1");
            }
            number(text.append(';').toString(), 9);
        }
    }

    private static void numbersOfSayersAndNow() {
        for (String kind : new String[] {"sayer", "early", "late", "sure", "all", "told"}) {
            number(kind + " @;", 9);
        }
        number("now @;", 20);
        number("now 5; now @;", 20);
    }

    private static void numbersOfSayings() {
        for (int sayers = 1; sayers <= 5; sayers++) {
            number("all 1;".repeat(sayers) + "said @ 1 1;", sayers - 1);
        }
        number("all 1; said 0 @ 1;", 19);
        number("all 1; said 0 1 @;", 3);
        // no SAYER is told ahead: no number is in range
        faultAt("said 0 1 1;", 5);
        faultAt("said 0", 5);
        faultAt("said", 4);
        faultAt("said ;all 1;", 5);
        faultAt("all 1; said 1 1 1; all 2;", 12);
    }

    private static boolean isLetter(String text, int i) {
        return i >= 0 && i < text.length() && text.charAt(i) >= 'a' && text.charAt(i) <= 'z';
    }

    private static int startOfName(String text, int i) {
        int start = i;
        while (isLetter(text, start - 1)) {
            start--;
        }
        return start;
    }

    /** Where the fault is if the text ends ahead of place i, or a byte that can't stand there comes in. */
    private static int faultOfBreak(String text, int i) {
        boolean inName = isLetter(text, i - 1) && isLetter(text, i);
        return inName ? startOfName(text, i) : i;
    }

    private static void cutOffAtEachPlace() {
        isTaken(WHOLE);
        for (int i = 0; i <= WHOLE.length(); i++) {
            String cut = WHOLE.substring(0, i);
            if (cut.isBlank() || cut.stripTrailing().endsWith(";")) {
                isTaken(cut);
            } else {
                faultAt(cut, faultOfBreak(WHOLE, i));
            }
        }
    }

    private static void aByteAtEachPlace() {
        char[] off = {0, 1, '\t', '\n', '/', ':', '`', '{', '}', '[', '|', 'A', 'Z', '@', '_', '-', ',', 127, 128, 160, 255};
        for (int i = 0; i <= WHOLE.length(); i++) {
            for (char c : off) {
                faultAt(WHOLE.substring(0, i) + c + WHOLE.substring(i), faultOfBreak(WHOLE, i));
            }
        }
    }

    /** Blanks stand between words as one likes, but they part a NAME or a NUMBER. */
    private static void blanksAtEachPlace() {
        for (int i = 0; i <= WHOLE.length(); i++) {
            String text = WHOLE.substring(0, i) + "   " + WHOLE.substring(i);
            boolean inNumber = i > 0 && i < WHOLE.length() && Character.isDigit(WHOLE.charAt(i - 1))
                && Character.isDigit(WHOLE.charAt(i));
            if (isLetter(WHOLE, i - 1) && isLetter(WHOLE, i)) {
                faultAt(text, startOfName(WHOLE, i));
            } else if (inNumber) {
                Due.is("'" + text + "' is refused", reads(text) <= -100 ? 1 : 0, 1);
            } else {
                isTaken(text);
            }
        }
        isTaken(WHOLE.replace(" ", "  "));
        isTaken(WHOLE.replace(";", " ; "));
        isTaken(WHOLE.replace("; ", ";").replace(" ;", ";").strip());
        faultAt("day 1 9 worth 1;", 6);
        faultAt("now 1 9;", 6);
    }

    private static void bytesThatAreNoBlanks() {
        for (int c = 0; c < 256; c++) {
            boolean isWord = c >= 'a' && c <= 'z' || c >= '0' && c <= '9';
            if (c == ' ') {
                isTaken("now 1;" + (char) c);
            } else {
                faultAt("now 1;" + (char) c, 6);
            }
            if (!isWord && c != ' ') {
                faultAt("now" + (char) c + "1;", 3);
            }
            if (c != ' ' && c != ';' && !(c >= '0' && c <= '9')) {
                faultAt("now 1" + (char) c, 5);
            }
        }
    }

    private static void weightsOfZero() {
        faultAt("day 5 worth 1 of 0 0 0 0;", 23);
        faultAt("day 5 worth 1 of 0 0 0 0", 23);
        faultAt("day 5 worth 1 of 0 0 0  00 sign 1;", 24);
        faultAt("day 5 worth 1 of 0 0 0", 22);
        faultAt("day 5 worth 1 of 0 0 0 ;", 23);
        faultAt("day 5 worth 1; day 5 worth 1 of 0 0 0 0;", 38);
        for (int weight = 0; weight < 4; weight++) {
            StringBuilder text = new StringBuilder("day 5 worth 1 of");
            for (int i = 0; i < 4; i++) {
                text.append(i == weight ? " 1" : " 0");
            }
            isTaken(text.append(';').toString());
        }
    }

    private static void saidAhead() {
        String ahead = "late 1;late 2;said 0 4 2;";
        faultAt(ahead + "said 0 4 2;", ahead.length() + 9);
        faultAt(ahead + "said 1 4 2;", ahead.length() + 9);
        faultAt(ahead + "said 1 04   02", ahead.length() + 12);
        isTaken(ahead + "said 1 4 3;");
        isTaken(ahead + "said 1 5 2;");
        isTaken(ahead + "said 0 4 0;said 0 4 1;said 1 4 3;");
        faultAt(ahead + "said 0 4 0;said 0 4 1;said 1 4 3;said 1 4 0;", ahead.length() + 33 + 9);
        // what was said ahead of the text counts nothing
        SaidWeather x = new SaidWeather();
        x.sayer(0, 0);
        x.say(0, 4, 2);
        Due.is("said anew", Due.read(x, ahead), 2);
        Due.is("many(1)", x.many(1), 1);
    }

    private static void aSixthSayer() {
        Due.is("five SAYERS", reads(ALL_KINDS), 5);
        for (String sixth : new String[] {"told 1;", "sayer", "late 99", "all;", "sure", "early x"}) {
            faultAt(ALL_KINDS + sixth, ALL_KINDS.length());
        }
        isTaken(ALL_KINDS + "said 4 1 1;now 3;day 1 worth 1;");
        faultAt(ALL_KINDS + "said 5 1 1;", ALL_KINDS.length() + 5);
        // those who came ahead of the text count nothing
        SaidWeather x = Places.full();
        x.clerk();
        Due.is("five anew", Due.read(x, ALL_KINDS), 5);
    }

    private static void namesWhereTheyCannotStand() {
        String[] names = {"day", "worth", "of", "sign", "sayer", "early", "late", "sure", "all", "told", "said", "now"};
        for (String name : names) {
            boolean begins = !name.equals("worth") && !name.equals("of") && !name.equals("sign");
            faultAt("now 1; " + name, begins ? 7 + name.length() : 7);
            faultAt("now " + name, 4);
            faultAt("now 1 " + name, 6);
            faultAt("day " + name, 4);
            faultAt("day 1 " + name, name.equals("worth") ? 11 : 6);
            faultAt("day 1 worth " + name, 12);
            faultAt("day 1 worth 1 " + name, name.equals("of") || name.equals("sign") ? 14 + name.length() : 14);
            faultAt("day 1 worth 1 of " + name, 17);
            faultAt("day 1 worth 1 of 1 1 1 " + name, 23);
            faultAt("day 1 worth 1 of 1 1 1 1 " + name, name.equals("sign") ? 29 : 25);
            faultAt("day 1 worth 1 sign " + name, 19);
            faultAt("day 1 worth 1 sign 1 " + name, 21);
            faultAt("all " + name, 4);
            faultAt("all 1 " + name, 6);
            faultAt("all 1;said " + name, 11);
            faultAt("all 1;said 0 " + name, 13);
            faultAt("all 1;said 0 1 " + name, 15);
            faultAt("all 1;said 0 1 1 " + name, 17);
            faultAt("now 1;" + name + "s 1;", 6);
            faultAt("now 1;s" + name + " 1;", 6);
        }
    }
}
