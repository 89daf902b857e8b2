import java.nio.charset.StandardCharsets;

/** Compares answers with those that are due, and tells the ones that differ. */
final class Due {
    private static int asked = 0;
    private static int wrong = 0;

    private Due() {
    }

    static void is(String call, long got, long want) {
        asked++;
        if (got != want) {
            wrong++;
            System.out.println(call + " answered " + got + ", due is " + want);
        }
    }

    static void same(String call, String got, String want) {
        asked++;
        if (!got.equals(want)) {
            wrong++;
            tellDifference(call, got.split("\n"), want.split("\n"));
        }
    }

    /** Long texts are told by the first line that differs. */
    private static void tellDifference(String call, String[] got, String[] want) {
        int i = 0;
        while (i < got.length && i < want.length && got[i].equals(want[i])) {
            i++;
        }
        String gotLine = i < got.length ? got[i] : "its end";
        String wantLine = i < want.length ? want[i] : "its end";
        System.out.println(call + "\n  answered " + gotLine + "\n  due is   " + wantLine + "\n  in line  " + i);
    }

    /** Ends the test: with 1 if an answer was wrong, or if nothing was asked. */
    static void end() {
        System.out.println(asked + " answers, " + wrong + " of them not as due");
        if (wrong != 0 || asked == 0) {
            System.exit(1);
        }
    }

    /** Feeds a text as it stands: how many bytes the tape has then. */
    static int feed(SaidWeather x, String text) {
        byte[] bytes = text.getBytes(StandardCharsets.ISO_8859_1);
        int answer = x.many(4);
        for (int from = 0; from < bytes.length; from += 8) {
            int n = Math.min(8, bytes.length - from);
            answer = x.feed(packed(bytes, from, n), n);
        }
        return answer;
    }

    static long packed(byte[] bytes, int from, int n) {
        long eight = 0;
        for (int i = n - 1; i >= 0; i--) {
            eight = eight << 8 | bytes[from + i] & 0xff;
        }
        return eight;
    }

    /** Feeds a text and has the clerk read it. */
    static int read(SaidWeather x, String text) {
        feed(x, text);
        return x.clerk();
    }
}
