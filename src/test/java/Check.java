import java.util.function.LongSupplier;

/** Counts the answers that are due, prints those that are not, and tells them at the end. */
final class Check {
    private static final int MOST_TOLD = 50;

    private String about = "";
    private int right = 0;
    private int wrong = 0;

    void about(String what) {
        about = what;
    }

    void due(String call, long got, long want) {
        if (got == want) {
            right++;
            return;
        }
        wrong++;
        if (wrong > MOST_TOLD) {
            return;
        }
        System.out.println(about + ": " + call + " answered " + got + ", due is " + want);
    }

    /** A call that must answer so and change nothing. */
    void still(BowBend x, String call, LongSupplier ask, long want) {
        String before = stateOf(x);
        due(call, ask.getAsLong(), want);
        String after = stateOf(x);
        if (!before.equals(after)) {
            due(call + " changed " + before + " to " + after, 1, 0);
        }
    }

    /** All that can be asked of what an object holds, but for what its slots keep: at most 90 calls. */
    static String stateOf(BowBend x) {
        StringBuilder state = new StringBuilder();
        int n = x.count(1);
        for (int i = 0; i < 2 * n; i++) {
            for (int what = 0; what < 6; what++) {
                state.append(x.about(i / n * 10 + i % n, what)).append(' ');
            }
        }
        for (int i = 0; i < 9; i++) {
            state.append(x.grown(i / 3, i % 3)).append(' ');
        }
        for (int what = 0; what < 5; what++) {
            state.append(x.count(what)).append(' ');
        }
        return state.append(x.broken()).append(' ').append(x.fault()).toString();
    }

    int wrong() {
        return wrong;
    }

    void close(String name) {
        System.out.println(name + ": " + right + " right, " + wrong + " wrong");
        if (wrong != 0) {
            System.exit(1);
        }
    }

    /** Puts a whole text behind the one that stands, eight signs at a time. */
    static void put(BowBend bow, String signs) {
        for (int from = 0; from < signs.length(); from += 8) {
            String part = signs.substring(from, Math.min(signs.length(), from + 8));
            long v = 0;
            for (char sign : part.toCharArray()) {
                v = v << 8 | sign;
            }
            bow.write(part.length(), v);
        }
    }

    static BowBend bowOf(String signs) {
        BowBend bow = new BowBend();
        put(bow, signs);
        bow.stave();
        return bow;
    }

    static int faultOf(String signs) {
        BowBend bow = new BowBend();
        put(bow, signs);
        return bow.fault();
    }

    /** Woods so far apart that scrapes of unlike places can bring the same (cut). */
    static BowBend farWoods(String signs, int e) {
        BowBend bow = bowOf(signs);
        bow.wood(0, e, 99, 99);
        bow.wood(1, 9, 99, 99);
        bow.wood(2, 1, 99, 99);
        return bow;
    }

    /** How even it would be at so many inches if these places were scraped. */
    static int evenScraped(BowBend bow, int at, int... places) {
        bow.keep(0);
        for (int place : places) {
            bow.scrape(place, 1);
        }
        int even = bow.even(at);
        bow.again(0);
        return even;
    }
}
