import java.math.BigInteger;
import java.util.ArrayList;
import java.util.Arrays;
import java.util.List;
import java.util.TreeMap;
import java.util.regex.Matcher;
import java.util.regex.Pattern;

/**
 * The document once more, written another way than the program: whole numbers without a bound, and
 * every way and chance gone through one by one. Slow, and only there to be held against it.
 */
public final class Model {
    static final int UNKNOWN = -1, BAD = -2, LATE = -3, FULL = -4, NONE = -9;

    private static final class Spot {
        int width = 5, depth = 20, wood = 0, sets = 0, seen = 0;
        boolean knot = false;

        Spot copy() {
            Spot s = new Spot();
            s.width = width;
            s.depth = depth;
            s.wood = wood;
            s.sets = sets;
            s.seen = seen;
            s.knot = knot;
            return s;
        }
    }

    private static final class State {
        TreeMap<Integer, Spot> spots = new TreeMap<>();
        int[][] woods = {{5, 60, 40}, {7, 80, 50}, {3, 40, 20}};
        int broken = NONE;

        State copy() {
            State s = new State();
            spots.forEach((told, spot) -> s.spots.put(told, spot.copy()));
            for (int i = 0; i < 3; i++) {
                s.woods[i] = woods[i].clone();
            }
            s.broken = broken;
            return s;
        }
    }

    private static final class Way {
        int even;
        List<Integer> places;
    }

    private String text = "";
    private State now = new State();
    private final State[] kept = new State[2];

    public Model() {
        now.spots.put(0, new Spot());
        now.spots.put(10, new Spot());
    }

    private int size() {
        return now.spots.size() / 2;
    }

    private static boolean within(int v, int low, int high) {
        return low <= v && v <= high;
    }

    private static BigInteger big(long v) {
        return BigInteger.valueOf(v);
    }

    private static BigInteger times(long... all) {
        BigInteger product = BigInteger.ONE;
        for (long v : all) {
            product = product.multiply(big(v));
        }
        return product;
    }

    private static long part(BigInteger top, BigInteger bottom, boolean upper) {
        BigInteger g = top.gcd(bottom);
        return (upper ? top : bottom).divide(g).longValueExact();
    }

    public int write(int n, long v) {
        if (!within(n, 1, 8)) {
            return BAD;
        }
        if (text.length() + n > 60) {
            return FULL;
        }
        StringBuilder more = new StringBuilder();
        for (int i = 0; i < n; i++) {
            more.insert(0, (char) (v & 255));
            v >>= 8;
        }
        text += more;
        return text.length();
    }

    public int wipe() {
        int was = text.length();
        text = "";
        return was;
    }

    private static boolean canBegin(String start) {
        for (int n = 1; n <= 6; n++) {
            String limb = "([1-9](0[4-9]|[123][0-9]|40)[0-2]){" + n + "}";
            Matcher m = Pattern.compile(limb + "/" + limb).matcher(start);
            if (m.matches() || m.hitEnd()) {
                return true;
            }
        }
        return false;
    }

    private static boolean isWhole(String all) {
        for (int n = 1; n <= 6; n++) {
            String limb = "([1-9](0[4-9]|[123][0-9]|40)[0-2]){" + n + "}";
            if (all.matches(limb + "/" + limb)) {
                return true;
            }
        }
        return false;
    }

    public int fault() {
        for (int length = 1; length <= text.length(); length++) {
            if (!canBegin(text.substring(0, length))) {
                return length - 1;
            }
        }
        return isWhole(text) ? NONE : text.length();
    }

    public int stave() {
        if (fault() != NONE) {
            return LATE;
        }
        now.spots.clear();
        now.broken = NONE;
        String[] limbs = text.split("/");
        for (int limb = 0; limb < 2; limb++) {
            for (int k = 0; 4 * k < limbs[limb].length(); k++) {
                String four = limbs[limb].substring(4 * k, 4 * k + 4);
                Spot s = new Spot();
                s.width = Integer.parseInt(four.substring(0, 1));
                s.depth = Integer.parseInt(four.substring(1, 3));
                s.wood = Integer.parseInt(four.substring(3));
                now.spots.put(10 * limb + k, s);
            }
        }
        return size();
    }

    public int wood(int wood, int e, int pull, int press) {
        if (!within(wood, 0, 2)) {
            return UNKNOWN;
        }
        if (!within(e, 1, 9) || !within(pull, 1, 99) || !within(press, 1, 99)) {
            return BAD;
        }
        int was = now.woods[wood][0];
        now.woods[wood] = new int[] {e, pull, press};
        return was;
    }

    public int grown(int wood, int what) {
        if (!within(wood, 0, 2)) {
            return UNKNOWN;
        }
        return within(what, 0, 2) ? now.woods[wood][what] : BAD;
    }

    public int knot(int place, boolean is) {
        Spot s = now.spots.get(place);
        if (s == null) {
            return UNKNOWN;
        }
        boolean was = s.knot;
        s.knot = is;
        return was != is ? 1 : 0;
    }

    public int about(int place, int what) {
        Spot s = now.spots.get(place);
        if (s == null) {
            return UNKNOWN;
        }
        if (!within(what, 0, 5)) {
            return BAD;
        }
        return new int[] {s.width, s.depth, s.wood, s.sets, s.knot ? 1 : 0, s.seen}[what];
    }

    private int e(State state, int place) {
        return state.woods[state.spots.get(place).wood][0];
    }

    private BigInteger gives(State state, int place) {
        Spot s = state.spots.get(place);
        int arm = place % 10 + 1;
        return times(1000000000L, arm, arm).divide(times(e(state, place), s.width, s.depth, s.depth, s.depth));
    }

    private BigInteger allGive(State state) {
        BigInteger sum = BigInteger.ZERO;
        for (int place : state.spots.keySet()) {
            sum = sum.add(gives(state, place));
        }
        return sum;
    }

    public long give(int place) {
        return now.spots.containsKey(place) ? gives(now, place).longValueExact() : UNKNOWN;
    }

    public long limb(int limb) {
        if (!within(limb, 0, 1)) {
            return UNKNOWN;
        }
        BigInteger sum = BigInteger.ZERO;
        for (int place : now.spots.keySet()) {
            if (place / 10 == limb) {
                sum = sum.add(gives(now, place));
            }
        }
        return sum.longValueExact();
    }

    private static int followOf(State state) {
        int sets = 0;
        for (Spot s : state.spots.values()) {
            sets += s.sets;
        }
        return sets / 10;
    }

    public int follow() {
        return followOf(now);
    }

    private static BigInteger weightTop(State state, int x) {
        return times(2000000L, Math.max(x - followOf(state), 0));
    }

    public long weight(int x, boolean upper) {
        return within(x, 0, 40) ? part(weightTop(now, x), allGive(now), upper) : BAD;
    }

    private BigInteger strains(State state, int place, int x) {
        Spot s = state.spots.get(place);
        BigInteger top = weightTop(state, x).multiply(times(place % 10 + 1, 1000000L));
        return top.divide(allGive(state).multiply(times(e(state, place), s.width, s.depth, s.depth)));
    }

    public long strain(int place, int x) {
        if (!now.spots.containsKey(place)) {
            return UNKNOWN;
        }
        return within(x, 0, 40) ? strains(now, place, x).longValueExact() : BAD;
    }

    public int draw(int x) {
        if (!within(x, 0, 40)) {
            return BAD;
        }
        if (now.broken != NONE) {
            return LATE;
        }
        State before = now.copy();
        BigInteger worst = BigInteger.ZERO;
        for (int place : before.spots.keySet()) {
            Spot s = before.spots.get(place);
            int line = before.woods[s.wood][1];
            line = s.knot ? line / 2 : line;
            BigInteger above = strains(before, place, x).subtract(times(1000, line));
            if (above.compareTo(worst) > 0) {
                worst = above;
                now.broken = place;
            }
        }
        if (now.broken != NONE) {
            return 100 + now.broken;
        }
        int got = 0;
        for (int place : before.spots.keySet()) {
            Spot s = now.spots.get(place);
            BigInteger above = strains(before, place, x).subtract(times(1000, before.woods[s.wood][2]));
            if (above.signum() > 0) {
                got++;
                BigInteger[] parts = above.divideAndRemainder(big(1000));
                s.sets = Math.min(99, s.sets + parts[0].intValueExact() + parts[1].signum());
            }
        }
        return got;
    }

    public int broken() {
        return now.broken;
    }

    public int scrape(int place, int s) {
        if (!now.spots.containsKey(place)) {
            return UNKNOWN;
        }
        if (!within(s, 1, 9)) {
            return BAD;
        }
        if (now.broken != NONE || now.spots.get(place).depth - s < 4) {
            return LATE;
        }
        return now.spots.get(place).depth -= s;
    }

    public int steam(int place) {
        if (!now.spots.containsKey(place)) {
            return UNKNOWN;
        }
        return now.broken != NONE ? LATE : (now.spots.get(place).sets /= 2);
    }

    private List<Integer> byStrain(int x, int sign) {
        List<Integer> places = new ArrayList<>(now.spots.keySet());
        places.sort((a, b) -> {
            int c = sign * strains(now, a, x).compareTo(strains(now, b, x));
            return c != 0 ? c : a - b;
        });
        return places;
    }

    public int hinge(int x) {
        return within(x, 0, 40) ? byStrain(x, -1).get(0) : BAD;
    }

    public int stiff(int x) {
        return within(x, 0, 40) ? byStrain(x, 1).get(0) : BAD;
    }

    private int evenOf(State state, int x) {
        BigInteger least = null;
        BigInteger greatest = null;
        for (int place : state.spots.keySet()) {
            BigInteger strain = strains(state, place, x);
            least = least == null ? strain : least.min(strain);
            greatest = greatest == null ? strain : greatest.max(strain);
        }
        return greatest.signum() == 0 ? 1000 : times(1000).multiply(least).divide(greatest).intValueExact();
    }

    public int even(int x) {
        return within(x, 0, 40) ? evenOf(now, x) : BAD;
    }

    private State scraped(List<Integer> places) {
        State state = now.copy();
        for (int place : places) {
            if (--state.spots.get(place).depth < 4) {
                return null;
            }
        }
        return state;
    }

    private boolean weighs(State state, int x, int f) {
        return weightTop(state, x).compareTo(times(f).multiply(allGive(state))) >= 0;
    }

    public int next(int x, int f) {
        if (!within(x, 0, 40) || !within(f, 0, 999)) {
            return BAD;
        }
        int most = evenOf(now, x);
        int at = NONE;
        for (int place : now.spots.keySet()) {
            State state = scraped(List.of(place));
            if (state != null && weighs(state, x, f) && evenOf(state, x) > most) {
                most = evenOf(state, x);
                at = place;
            }
        }
        return at;
    }

    private static int order(List<Integer> a, List<Integer> b) {
        for (int i = 0; i < a.size(); i++) {
            if (!a.get(i).equals(b.get(i))) {
                return a.get(i) - b.get(i);
            }
        }
        return 0;
    }

    private static boolean beats(Way a, Way b) {
        if (b == null || a.even != b.even) {
            return b == null || a.even > b.even;
        }
        if (a.places.size() != b.places.size()) {
            return a.places.size() < b.places.size();
        }
        return order(a.places, b.places) < 0;
    }

    /** All ways from the most scrapes down and from the last places on, so that no order helps. */
    private Way bestWay(int x, int f, int n) {
        Integer[] places = now.spots.keySet().toArray(new Integer[0]);
        Way best = null;
        for (int count = n; count >= 0; count--) {
            int codes = (int) Math.pow(places.length, count);
            for (int code = codes - 1; code >= 0; code--) {
                Integer[] way = new Integer[count];
                int rest = code;
                boolean sorted = true;
                for (int i = 0; i < count; i++) {
                    way[i] = places[rest % places.length];
                    rest /= places.length;
                    sorted &= i == 0 || way[i - 1] <= way[i];
                }
                State state = sorted ? scraped(Arrays.asList(way)) : null;
                if (state == null || !weighs(state, x, f)) {
                    continue;
                }
                Way w = new Way();
                w.even = evenOf(state, x);
                w.places = Arrays.asList(way);
                best = beats(w, best) ? w : best;
            }
        }
        return best;
    }

    public int best(int x, int f, int n) {
        if (!within(x, 0, 40) || !within(f, 0, 999) || !within(n, 1, 3)) {
            return BAD;
        }
        Way way = bestWay(x, f, n);
        return way == null ? NONE : way.even;
    }

    public int bestAt(int x, int f, int n, int i) {
        if (!within(x, 0, 40) || !within(f, 0, 999) || !within(n, 1, 3)) {
            return BAD;
        }
        Way way = bestWay(x, f, n);
        return way != null && within(i, 0, way.places.size() - 1) ? way.places.get(i) : NONE;
    }

    private int formed(int place, int f, int s) {
        int depth = 40;
        while (depth >= 4) {
            BigInteger bears = times(s, e(now, place), now.spots.get(place).width, depth, depth);
            if (times(f, place % 10 + 1, 1000).compareTo(bears) > 0) {
                break;
            }
            depth--;
        }
        return depth == 40 ? NONE : depth + 1;
    }

    public int form(int place, int f, int s) {
        if (!now.spots.containsKey(place)) {
            return UNKNOWN;
        }
        return within(f, 1, 999) && within(s, 1, 99) ? formed(place, f, s) : BAD;
    }

    public int shape(int f, int s) {
        if (!within(f, 1, 999) || !within(s, 1, 99)) {
            return BAD;
        }
        State after = now.copy();
        int changed = 0;
        for (int place : now.spots.keySet()) {
            int depth = formed(place, f, s);
            if (depth == NONE) {
                return LATE;
            }
            changed += depth != now.spots.get(place).depth ? 1 : 0;
            after.spots.get(place).depth = depth;
        }
        now = after;
        return changed;
    }

    public long pace(int m, int x, boolean upper) {
        if (!within(m, 1, 99) || !within(x, 0, 40)) {
            return BAD;
        }
        int load = 0;
        for (int place : now.spots.keySet()) {
            Spot s = now.spots.get(place);
            load += s.width * s.depth * (size() - place % 10);
        }
        BigInteger top = weightTop(now, x).multiply(times(x));
        return part(top, allGive(now).multiply(times(m + load / 100)), upper);
    }

    public long wet(int u, int x, boolean upper) {
        if (!within(u, 0, 50) || !within(x, 0, 40)) {
            return BAD;
        }
        return part(weightTop(now, x).multiply(times(100 - u)), allGive(now).multiply(times(100)), upper);
    }

    public long lost(int place, int a, int b, int x, boolean most, boolean upper) {
        if (!now.spots.containsKey(place)) {
            return UNKNOWN;
        }
        if (!within(a, 4, 40) || !within(b, 4, 40) || a > b || !within(x, 0, 40)) {
            return BAD;
        }
        State after = now.copy();
        for (int lost = place / 10 * 10; lost <= place; lost++) {
            int chosen = a;
            for (int depth = a; depth <= b; depth++) {
                after.spots.get(lost).depth = depth;
                BigInteger here = gives(after, lost);
                after.spots.get(lost).depth = chosen;
                int c = here.compareTo(gives(after, lost));
                chosen = most ? (c < 0 ? depth : chosen) : (c > 0 ? depth : chosen);
            }
            after.spots.get(lost).depth = chosen;
        }
        return part(weightTop(after, x), allGive(after), upper);
    }

    public int see(int place, int v) {
        if (!now.spots.containsKey(place)) {
            return UNKNOWN;
        }
        if (!within(v, 0, 99)) {
            return BAD;
        }
        int was = now.spots.get(place).seen;
        now.spots.get(place).seen = v;
        return was;
    }

    private int offs(int place) {
        BigInteger should = times(1000).multiply(gives(now, place)).divide(allGive(now));
        return 1000 * now.spots.get(place).seen / count(4) - should.intValueExact();
    }

    public int off(int place) {
        if (!now.spots.containsKey(place)) {
            return UNKNOWN;
        }
        return count(4) == 0 ? LATE : offs(place) + 1000;
    }

    public int tooStiff() {
        if (count(4) == 0) {
            return NONE;
        }
        int found = now.spots.firstKey();
        for (int place : now.spots.keySet()) {
            found = offs(place) < offs(found) ? place : found;
        }
        return found;
    }

    /** How the hits of n tries by t tenths fall, each course of them gone through by itself. */
    private static BigInteger[] byHits(int n, int t) {
        BigInteger[] hits = new BigInteger[n + 1];
        Arrays.fill(hits, BigInteger.ZERO);
        for (int course = 0; course < 1 << n; course++) {
            BigInteger ways = BigInteger.ONE;
            for (int i = 0; i < n; i++) {
                ways = ways.multiply(big((course >> i & 1) == 1 ? t : 10 - t));
            }
            hits[Integer.bitCount(course)] = hits[Integer.bitCount(course)].add(ways);
        }
        return hits;
    }

    public long slips(int place, int n, int t, int y, boolean upper) {
        if (!now.spots.containsKey(place)) {
            return UNKNOWN;
        }
        if (!within(n, 1, 12) || !within(t, 0, 10) || !within(y, 0, 40)) {
            return BAD;
        }
        BigInteger[] hits = byHits(n, t);
        BigInteger good = BigInteger.ZERO;
        for (int h = 0; h <= n; h++) {
            if (now.spots.get(place).depth - 2 * h - (n - h) >= y) {
                good = good.add(hits[h]);
            }
        }
        return part(good, BigInteger.TEN.pow(n), upper);
    }

    public long good(int m, int t, int k, boolean upper) {
        if (!within(m, 1, 12) || !within(t, 0, 10) || !within(k, 0, m)) {
            return BAD;
        }
        BigInteger[] hits = byHits(m, t);
        BigInteger good = BigInteger.ZERO;
        for (int h = k; h <= m; h++) {
            good = good.add(hits[h]);
        }
        return part(good, BigInteger.TEN.pow(m), upper);
    }

    public int keep(int slot) {
        if (!within(slot, 0, 1)) {
            return UNKNOWN;
        }
        kept[slot] = now.copy();
        return size();
    }

    public int again(int slot) {
        if (!within(slot, 0, 1)) {
            return UNKNOWN;
        }
        if (kept[slot] == null) {
            return LATE;
        }
        now = kept[slot].copy();
        return size();
    }

    public int count(int what) {
        int knots = 0, sets = 0, seen = 0;
        for (Spot s : now.spots.values()) {
            knots += s.knot ? 1 : 0;
            sets += s.sets;
            seen += s.seen;
        }
        return within(what, 0, 4) ? new int[] {text.length(), size(), knots, sets, seen}[what] : BAD;
    }
}
