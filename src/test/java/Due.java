/** What the tests by hand share: an answer beside the one that is due, and objects to begin with. */
class Due {
    static final int NONE = -1, BAD = -2, STATE = -3, FULL = -4, NEVER = -5;
    static final int NOTHING = -11, CAST = -12, PLACE = -13, SIZE = -14, OF_NONE = -10001;
    static final long NO = Long.MIN_VALUE;
    static final int MIN = Integer.MIN_VALUE, MAX = Integer.MAX_VALUE;
    static final int PERSON = 0, DEVOUT = 1, FEARFUL = 2, GREEDY = 3, FALSE = 4, HIRED = 5, TOLD = 6;
    static final int BYTES = 0, SHORTS = 1, INTS = 2, LONGS = 3, BOOLEANS = 4;

    private static int passed, failed;
    private static String where = "";

    /** What is laid beside from here on belongs to this. */
    static void at(String place) {
        where = place;
    }

    static int looks() {
        return passed + failed;
    }

    static void due(String call, long got, long want) {
        if (got == want) {
            passed++;
        } else {
            failed++;
            System.out.println(where + ": " + call + " answered " + got + ", due is " + want);
        }
    }

    /** All of these are due to answer the same. */
    static void all(String call, long want, long... got) {
        for (int i = 0; i < got.length; i++) {
            due(call + " #" + i, got[i], want);
        }
    }

    static void same(String call, long[] got, long[] want) {
        due(call + ": how many", got.length, want.length);
        for (int i = 0; i < Math.min(got.length, want.length); i++) {
            due(call + ": " + i, got[i], want[i]);
        }
    }

    static void feed(SevenUnwashed x, String text) {
        for (int i = 0; i < text.length(); i++) {
            x.feed(text.charAt(i));
        }
    }

    static int land(SevenUnwashed x, String text) {
        feed(x, text);
        return x.land();
    }

    static SevenUnwashed with(String land, int... kindsVsThanks) {
        SevenUnwashed x = new SevenUnwashed();
        for (int i = 0; i < kindsVsThanks.length; i += 3) {
            x.person(kindsVsThanks[i], kindsVsThanks[i + 1], kindsVsThanks[i + 2]);
        }
        if (!land.isEmpty() && land(x, land) != 0) {
            throw new IllegalStateException("no land: " + land);
        }
        return x;
    }

    static void days(SevenUnwashed x, int n) {
        for (int left = n; left > 0; left -= 60) {
            x.pass(Math.min(60, left));
        }
    }

    static void end() {
        System.out.println(passed + " answers as due, " + failed + " not");
        if (failed != 0) {
            System.exit(1);
        }
    }
}
