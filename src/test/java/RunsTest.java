import java.util.Random;

/** Long runs of calls of all kinds: the class answers as the model does, and nothing is ever thrown. */
public final class RunsTest {
    private static final int RUNS = 1500, CALLS = 500;
    private static final int[] ODD = {-1, Integer.MIN_VALUE, Integer.MAX_VALUE, 4, 5, 6, 20, 21, 40, 41, 100, -2};

    // Each call with what its numbers are.
    private static final String[] FACE = {
        "feed eight n8", "clerk", "worth day v99", "weigh day weather v9", "sign day sign", "dayOf day what10",
        "set law v99", "sayer kind a", "sayerOf sayer what4", "mind sayer kind a", "purse sayer purse",
        "say sayer day weather", "sayingOf saying what4", "would sayer what3", "morning few", "now", "owner day",
        "odds day weather part", "gain day weather part", "waited day part", "best part", "whole day part",
        "owed sayer", "believed sayer part", "whom", "open", "seed any", "prove n20", "row n20 what3",
        "alterRow n20 what3 any", "judge", "worths sheet i40 day n8", "sheet sheet sort n40", "put sheet i40 any",
        "item sheet sort0 i40", "shelf sheet what3 thing", "taken sheet as", "act sheet act any", "trace n20",
        "many what6", "keep", "again"};

    private final Random random;
    private final SaidWeather x = new SaidWeather();
    private final Model model = new Model();
    private final StringBuilder run = new StringBuilder();

    private RunsTest(long seed) {
        random = new Random(seed);
    }

    public static void main(String[] args) {
        for (int i = 0; i < RUNS; i++) {
            if (!new RunsTest(i).goes(i)) {
                break;
            }
        }
        Due.end();
    }

    private boolean goes(int number) {
        for (int i = 0; i < CALLS; i++) {
            boolean same = random.nextInt(25) == 0 ? text() : callAs(FACE[random.nextInt(FACE.length)]);
            if (!same) {
                System.out.println("run " + number + ":" + run);
                return false;
            }
        }
        return true;
    }

    private boolean callAs(String told) {
        String[] words = told.split(" ");
        // Mornings end a run soon, and an empty text takes all away.
        if ((words[0].equals("morning") || words[0].equals("clerk")) && random.nextInt(3) > 0) {
            return true;
        }
        long[] numbers = new long[words.length - 1];
        for (int i = 0; i < numbers.length; i++) {
            numbers[i] = words[i + 1].equals("eight") ? random.nextLong() : number(words[i + 1]);
        }
        return call(words[0], numbers);
    }

    private boolean call(String name, long... numbers) {
        String told = Calls.told(name, numbers);
        long want = model.call(name, numbers);
        run.append("\n  ").append(told).append(" -> ").append(want);
        // What is asked often in between is not looked at whole.
        boolean look = want < 0 && random.nextInt(10) == 0 && !name.equals("clerk") && !name.equals("act");
        String before = look && refuses(name, want) ? Look.at(x) : null;
        long got = Calls.call(x, name, numbers);
        Due.is(told, got, want);
        if (before != null) {
            Due.same(told + " changes nothing", Look.at(x), before);
        }
        return got == want;
    }

    private static boolean refuses(String name, long want) {
        return switch (name) {
            case "seed", "put", "item", "gain", "waited", "whole", "owed", "row", "sign" -> false;
            case "alterRow" -> false;
            default -> want < 0;
        };
    }

    private int number(String sort) {
        if (random.nextInt(20) == 0) {
            return ODD[random.nextInt(ODD.length)];
        }
        return switch (sort) {
            case "day" -> random.nextInt(20);
            case "weather", "sheet", "law", "act", "sort0" -> random.nextInt(4);
            case "sign", "sort" -> random.nextInt(5) - 1;
            case "kind" -> random.nextInt(6);
            case "a" -> random.nextInt(10);
            case "sayer", "thing" -> random.nextInt(5);
            case "saying" -> random.nextInt(1 + x.many(1));
            case "part" -> random.nextInt(2);
            case "purse" -> random.nextInt(20200) - 10100;
            case "few" -> random.nextInt(4);
            case "as" -> random.nextBoolean() ? random.nextInt(6) : 10 + random.nextInt(4);
            case "any" -> random.nextBoolean() ? random.nextInt() : random.nextInt(100) - 50;
            case "i40" -> random.nextInt(12);
            case "n8" -> 1 + random.nextInt(8);
            case "n20" -> random.nextInt(22);
            case "n40" -> random.nextInt(44) - 2;
            case "v9" -> random.nextBoolean() ? 0 : random.nextInt(10);
            case "v99" -> random.nextBoolean() ? random.nextInt(10) : random.nextInt(100);
            default -> random.nextInt(Integer.parseInt(sort.replaceAll("[a-z]", "")));
        };
    }

    /** A text, mostly right, sometimes with a byte or two that are off. */
    private boolean text() {
        StringBuilder text = new StringBuilder();
        int things = random.nextInt(9);
        for (int i = 0; i < things; i++) {
            text.append(thing());
        }
        for (int i = random.nextInt(3); i > 0 && text.length() > 0; i--) {
            spoil(text);
        }
        String cut = text.length() > 240 ? text.substring(0, 240) : text.toString();
        byte[] bytes = cut.getBytes(java.nio.charset.StandardCharsets.ISO_8859_1);
        boolean same = true;
        for (int from = 0; same && from < bytes.length; from += 8) {
            int n = Math.min(8, bytes.length - from);
            same = call("feed", Due.packed(bytes, from, n), n);
        }
        return same && call("clerk");
    }

    private String thing() {
        String[] kinds = {"sayer", "early", "late", "sure", "all", "told"};
        switch (random.nextInt(5)) {
            case 0:
                return "day " + digits(20) + " worth " + digits(100)
                    + (random.nextBoolean() ? " of " + digits(4) + " " + digits(4) + " " + digits(2) + " " + digits(9) : "")
                    + (random.nextBoolean() ? " sign " + digits(4) : "") + ";";
            case 1:
            case 2:
                return kinds[random.nextInt(6)] + " " + digits(10) + " ; ";
            case 3:
                return "said " + digits(2) + " " + digits(6) + " " + digits(4) + ";";
            default:
                return "now" + digits(random.nextInt(4) == 0 ? 21 : 4) + ";";
        }
    }

    private String digits(int bound) {
        int v = random.nextInt(40) == 0 ? bound : random.nextInt(bound);
        return random.nextInt(10) == 0 && v < 10 ? "0" + v : "" + v;
    }

    private void spoil(StringBuilder text) {
        int place = random.nextInt(text.length());
        String bytes = " ;0129adeworthsign{}A\u00ff\u0000";
        char sign = bytes.charAt(random.nextInt(bytes.length()));
        switch (random.nextInt(3)) {
            case 0:
                text.setCharAt(place, sign);
                break;
            case 1:
                text.insert(place, sign);
                break;
            default:
                text.deleteCharAt(place);
                break;
        }
    }
}
