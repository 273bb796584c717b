import java.lang.reflect.Method;
import java.util.ArrayList;
import java.util.Arrays;
import java.util.List;
import java.util.Random;

/** Long runs of calls drawn by chance (the same each time), each answer held against the Model's. */
public final class ModelRuns {
    private static final int OBJECTS = 1200;
    private static final int CALLS = 512;

    // For each call how often it comes and its arguments: p place, b yes or no, l a long, low..high a number.
    private static final String[] CALL_TABLE = {
        "write 2 1..8 l", "wipe 1", "fault 2", "stave 1", "wood 3 0..2 1..9 1..99 1..99", "grown 1 0..2 0..2",
        "knot 2 p b", "about 3 p 0..5", "give 2 p", "limb 1 0..1", "follow 2", "weight 3 0..40 b",
        "strain 4 p 0..40", "draw 5 0..40", "broken 2", "scrape 8 p 1..9", "steam 2 p", "hinge 3 0..40",
        "stiff 3 0..40", "even 3 0..40", "next 4 0..40 0..999", "best 1 0..40 0..999 1..3",
        "bestAt 1 0..40 0..999 1..3 0..2", "form 3 p 1..999 1..99", "shape 1 1..999 1..99", "pace 3 1..99 0..40 b",
        "wet 2 0..50 0..40 b", "lost 3 p 4..40 4..40 0..40 b b", "see 6 p 0..99", "off 4 p", "tooStiff 4",
        "slips 1 p 1..12 0..10 0..40 b", "good 1 1..12 0..10 0..12 b", "keep 1 0..1", "again 1 0..1", "count 2 0..4"
    };

    private final Random chance = new Random(20261119);
    private final Check check = new Check();
    private final List<String[]> lots = new ArrayList<>();

    public static void main(String[] args) throws Exception {
        new ModelRuns().run();
    }

    private void run() throws Exception {
        for (String row : CALL_TABLE) {
            String[] words = row.split(" ");
            for (int i = 0; i < Integer.parseInt(words[1]); i++) {
                lots.add(words);
            }
        }
        for (int object = 0; object < OBJECTS && check.wrong() < 20; object++) {
            check.about("object " + object);
            runOne();
        }
        check.close("ModelRuns");
    }

    private void runOne() throws Exception {
        BowBend bow = new BowBend();
        Model model = new Model();
        for (int calls = 0; calls < CALLS; calls++) {
            if (calls == 0 || chance.nextInt(40) == 0) {
                calls += putStave(bow, model);
                continue;
            }
            String[] words = lots.get(chance.nextInt(lots.size()));
            Object[] args = new Object[words.length - 2];
            for (int i = 0; i < args.length; i++) {
                args[i] = argument(words[i + 2]);
            }
            both(bow, model, words[0], args);
        }
    }

    private void both(BowBend bow, Model model, String name, Object... args) throws Exception {
        long got = ((Number) method(BowBend.class, name).invoke(bow, args)).longValue();
        long want = ((Number) method(Model.class, name).invoke(model, args)).longValue();
        check.due(name + Arrays.toString(args), got, want);
    }

    private static Method method(Class<?> of, String name) {
        for (Method m : of.getDeclaredMethods()) {
            if (m.getName().equals(name)) {
                return m;
            }
        }
        throw new IllegalStateException(name);
    }

    private Object argument(String kind) {
        switch (kind) {
            case "b":
                return chance.nextBoolean();
            case "l":
                return chance.nextBoolean() ? chance.nextLong() : 0x3532303035323030L;
            case "p":
                return chance.nextInt(20) == 0 ? odd(0, 15) : 10 * chance.nextInt(2) + chance.nextInt(chance.nextInt(6) + 1);
            default:
                String[] ends = kind.split("\\.\\.");
                int low = Integer.parseInt(ends[0]);
                int high = Integer.parseInt(ends[1]);
                return chance.nextInt(30) == 0 ? odd(low, high) : low + chance.nextInt(high - low + 1);
        }
    }

    private int odd(int low, int high) {
        int[] odd = {low - 1, high + 1, low, high, Integer.MIN_VALUE, Integer.MAX_VALUE, -1, 20, -10};
        return odd[chance.nextInt(odd.length)];
    }

    /** A new stave, mostly without a fault; some of like places and some of like limbs, some of weak woods. */
    private int putStave(BowBend bow, Model model) throws Exception {
        int n = chance.nextInt(6) + 1;
        boolean alike = chance.nextBoolean();
        boolean mirrored = chance.nextInt(3) == 0;
        StringBuilder signs = new StringBuilder();
        for (int i = 0; i < 2 * n; i++) {
            String place = alike ? alikePlace() : anyPlace();
            signs.append(i == n ? "/" : "").append(mirrored && i >= n ? signs.substring(4 * i - 4 * n, 4 * i - 4 * n + 4) : place);
        }
        if (chance.nextInt(4) == 0) {
            spoil(signs);
        }
        both(bow, model, "wipe");
        int calls = 4;
        for (int from = 0; from < signs.length(); from += 8) {
            int to = Math.min(signs.length(), from + 8);
            long v = chance.nextLong();
            for (int i = from; i < to; i++) {
                v = v << 8 | signs.charAt(i);
            }
            both(bow, model, "write", to - from, v);
            calls++;
        }
        both(bow, model, "fault");
        both(bow, model, "stave");
        for (int wood = 0; wood < 3 && chance.nextInt(3) == 0; wood++) {
            both(bow, model, "wood", wood, chance.nextInt(9) + 1, 80 + chance.nextInt(20), chance.nextInt(20) + 1);
            calls++;
        }
        return calls;
    }

    private String anyPlace() {
        int depth = 4 + chance.nextInt(37);
        return "" + (chance.nextInt(9) + 1) + depth / 10 + depth % 10 + chance.nextInt(3);
    }

    private String alikePlace() {
        int depth = 10 + chance.nextInt(5);
        return "" + (chance.nextInt(3) + 4) + depth / 10 + depth % 10 + "0";
    }

    private void spoil(StringBuilder signs) {
        int at = chance.nextInt(signs.length());
        switch (chance.nextInt(4)) {
            case 0:
                signs.setCharAt(at, "0123456789/: \0\u00ff\u0080".charAt(chance.nextInt(16)));
                break;
            case 1:
                signs.deleteCharAt(at);
                break;
            case 2:
                signs.insert(at, "0123456789/".charAt(chance.nextInt(11)));
                break;
            default:
                signs.setLength(at + 1);
        }
    }
}
