/** Counts the answers that are due, prints those that are not, and tells them at the end. */
final class Check {
    private String about = "";
    private int right = 0;
    private int wrong = 0;

    void about(String what) {
        about = what;
    }

    void due(String call, long got, long want) {
        if (got == want) {
            right++;
            return;
        }
        wrong++;
        System.out.println(about + ": " + call + " answered " + got + ", due is " + want);
    }

    int wrong() {
        return wrong;
    }

    void close(String name) {
        System.out.println(name + ": " + right + " right, " + wrong + " wrong");
        if (wrong != 0) {
            System.exit(1);
        }
    }

    /** Puts a whole text behind the one that stands, eight signs at a time. */
    static void put(BowBend bow, String signs) {
        for (int from = 0; from < signs.length(); from += 8) {
            String part = signs.substring(from, Math.min(signs.length(), from + 8));
            long v = 0;
            for (char sign : part.toCharArray()) {
                v = v << 8 | sign;
            }
            bow.write(part.length(), v);
        }
    }

    static BowBend bowOf(String signs) {
        BowBend bow = new BowBend();
        put(bow, signs);
        bow.stave();
        return bow;
    }

    static int faultOf(String signs) {
        BowBend bow = new BowBend();
        put(bow, signs);
        return bow.fault();
    }
}
