import java.lang.reflect.Method;
import java.math.BigInteger;
import java.nio.file.Files;
import java.nio.file.Path;
import java.util.ArrayList;
import java.util.Comparator;
import java.util.HashSet;
import java.util.List;
import java.util.Set;
import java.util.function.LongSupplier;
import java.util.function.Supplier;

/** Runs each test that @Says words of the document by itself, and holds what the edge tests share. */
abstract class Edges {
    static final int UNKNOWN = -1, BAD = -2, LATE = -3, FULL = -4, NONE = -9;
    static final int LOW = Integer.MIN_VALUE, HIGH = Integer.MAX_VALUE;
    private static final int MOST_PLACES = 6;
    private static final Path DOCUMENT = Path.of("../shared/DOC.md");

    interface Call {
        long on(BowBend x, int v);
    }

    private final Check check = new Check();

    /** Every test of the class, promise by promise; each promise of first .. last must have one. */
    final void run(int first, int last) throws Exception {
        String document = inOneLine(Files.readString(DOCUMENT));
        Set<Integer> promises = new HashSet<>();
        for (Method test : tests()) {
            Says says = test.getAnnotation(Says.class);
            promises.add(says.promise());
            check.about("promise " + says.promise() + ", " + test.getName() + ": " + says.value());
            check.due("the words stand in the document", document.contains(inOneLine(says.value())) ? 1 : 0, 1);
            test.setAccessible(true);
            test.invoke(this);
        }
        check.about(getClass().getName());
        for (int promise = first; promise <= last; promise++) {
            check.due("promise " + promise + " has a test", promises.contains(promise) ? 1 : 0, 1);
        }
        check.close(getClass().getName());
    }

    private List<Method> tests() {
        List<Method> tests = new ArrayList<>();
        for (Method method : getClass().getDeclaredMethods()) {
            if (method.isAnnotationPresent(Says.class)) {
                tests.add(method);
            }
        }
        tests.sort(Comparator.comparing((Method m) -> m.getAnnotation(Says.class).promise()).thenComparing(Method::getName));
        return tests;
    }

    private static String inOneLine(String words) {
        return words.replaceAll("\\s+", " ");
    }

    final void due(String call, long got, long want) {
        check.due(call, got, want);
    }

    final void still(BowBend x, String call, LongSupplier ask, long want) {
        check.still(x, call, ask, want);
    }

    /** A fraction above and below. */
    final void fraction(String call, LongSupplier above, long upper, LongSupplier below, long lower) {
        due(call + " above", above.getAsLong(), upper);
        due(call + " below", below.getAsLong(), lower);
    }

    /** A fraction as it is in least terms. */
    final void fractionOf(String call, LongSupplier above, LongSupplier below, long top, long bottom) {
        long divisor = BigInteger.valueOf(top).gcd(BigInteger.valueOf(bottom)).longValueExact();
        fraction(call, above, top / divisor, below, bottom / divisor);
    }

    /** The last values that are taken, and the first and the farthest that are refused, on each side. */
    final void bounds(Supplier<BowBend> made, String call, Call ask, int low, long atLow, int high, long atHigh, long refusal) {
        due(call + " of " + low, ask.on(made.get(), low), atLow);
        due(call + " of " + high, ask.on(made.get(), high), atHigh);
        refused(made, call, ask, refusal, low - 1, high + 1, LOW, HIGH);
    }

    /** A call that is refused for each of these values and changes nothing. */
    final void refused(Supplier<BowBend> made, String call, Call ask, long refusal, int... values) {
        for (int v : values) {
            BowBend x = made.get();
            still(x, call + " of " + v, () -> ask.on(x, v), refusal);
        }
    }

    /** UNKNOWN wherever there is no PLACE, and nowhere else, for limbs of each length. */
    final void places(String call, Call ask) {
        for (int n = 1; n <= MOST_PLACES; n++) {
            String signs = alike(n, "5200");
            for (int place = -12; place <= 32; place++) {
                if (place >= 0 && place < 20 && place % 10 < n) {
                    due(call + " of " + place + " is taken", ask.on(seenBow(signs), place) == UNKNOWN ? 0 : 1, 1);
                } else {
                    refused(() -> seenBow(signs), call, ask, UNKNOWN, place);
                }
            }
            refused(() -> seenBow(signs), call, ask, UNKNOWN, LOW, LOW + 1, -100, 100, 110, 256, HIGH - 1, HIGH);
        }
    }

    private static BowBend seenBow(String signs) {
        BowBend x = Check.bowOf(signs);
        x.see(0, 1);
        return x;
    }

    /** A stave of two limbs of n places, all told by the same four figures. */
    static String alike(int n, String four) {
        return four.repeat(n) + "/" + four.repeat(n);
    }

    /**
     * Two limbs, as wide as each place's arm is long, of one wood and depth: all their places have the same strain,
     * at x inches 1000 times x and the depth by n and (n and 1) half (cut).
     */
    static String even(int n, String depth) {
        StringBuilder limb = new StringBuilder();
        for (int arm = 1; arm <= n; arm++) {
            limb.append(arm).append(depth).append('0');
        }
        return limb + "/" + limb;
    }

    /** A new bow of two like places has a strain of 20000 for each inch, and weighs 200. */
    static BowBend newBow() {
        return new BowBend();
    }

    /** A bow that the first draw breaks, at place 0. */
    static BowBend brokenBow() {
        BowBend x = newBow();
        x.draw(40);
        return x;
    }
}
