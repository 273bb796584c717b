/**
 * A bow brought to bend, as ../shared/DOC.md promises it.
 *
 * Every row and object is made in the constructor: no call makes a new one, because all calls of a
 * run share one room. Places stand in the order in which they are told, so that the first of like
 * ones is the least told.
 */
public final class BowBend {
    public static final int UNKNOWN = -1, BAD = -2, LATE = -3, FULL = -4, NONE = -9;

    private static final int MOST_BYTES = 60;
    private static final int MOST_PLACES = 6;
    private static final int FIGURES = 4;
    private static final int LIMBS = 2;
    private static final int LIMB_STEP = 10;
    private static final int LEAST_DEPTH = 4;
    private static final int MOST_DEPTH = 40;
    private static final int MOST_INCHES = 40;
    private static final int MOST_WEIGHT = 999;
    private static final int MOST_E = 9;
    private static final int MOST_LINE = 99;
    private static final int MOST_SET = 99;
    private static final int MOST_SEEN = 99;
    private static final int MOST_SCRAPES = 3;
    private static final int MOST_TRIES = 12;
    private static final int TENTHS = 10;
    private static final int BREAKS = 100;

    private final Text text;
    private final Bow bow;
    private final Search search;
    private final Slot[] slots;

    public BowBend() {
        text = new Text();
        bow = new Bow();
        search = new Search();
        slots = new Slot[] {new Slot(), new Slot()};
    }

    // ---- staves, woods

    public int write(int n, long v) {
        if (n < 1 || n > 8) {
            return BAD;
        }
        if (n > MOST_BYTES - text.length) {
            return FULL;
        }
        for (int i = n - 1; i >= 0; i--) {
            text.append((int) (v >>> (8 * i)) & 255);
        }
        return text.length;
    }

    public int wipe() {
        int was = text.length;
        text.length = 0;
        return was;
    }

    public int fault() {
        return text.firstFault();
    }

    public int stave() {
        if (text.firstFault() != NONE) {
            return LATE;
        }
        bow.makeAnew(text);
        return bow.size;
    }

    public int wood(int wood, int e, int pull, int press) {
        Wood w = bow.woodNumbered(wood);
        if (w == null) {
            return UNKNOWN;
        }
        if (isOutside(e, 1, MOST_E) || isOutside(pull, 1, MOST_LINE) || isOutside(press, 1, MOST_LINE)) {
            return BAD;
        }
        int was = w.e;
        w.become(e, pull, press);
        return was;
    }

    public int grown(int wood, int what) {
        Wood w = bow.woodNumbered(wood);
        if (w == null) {
            return UNKNOWN;
        }
        switch (what) {
            case 0:
                return w.e;
            case 1:
                return w.pull;
            case 2:
                return w.press;
            default:
                return BAD;
        }
    }

    public int knot(int place, boolean is) {
        Place p = bow.placeTold(place);
        if (p == null) {
            return UNKNOWN;
        }
        int changed = p.knotted == is ? 0 : 1;
        p.knotted = is;
        return changed;
    }

    public int about(int place, int what) {
        Place p = bow.placeTold(place);
        if (p == null) {
            return UNKNOWN;
        }
        switch (what) {
            case 0:
                return p.width;
            case 1:
                return p.depth;
            case 2:
                return p.wood;
            case 3:
                return p.sets;
            case 4:
                return p.knotted ? 1 : 0;
            case 5:
                return p.seen;
            default:
                return BAD;
        }
    }

    // ---- drawn

    public long give(int place) {
        Place p = bow.placeTold(place);
        return p == null ? UNKNOWN : bow.giveOf(p);
    }

    public long limb(int limb) {
        return isOutside(limb, 0, LIMBS - 1) ? UNKNOWN : bow.limbGives(limb);
    }

    public int follow() {
        return bow.followed();
    }

    public long weight(int x, boolean upper) {
        if (isBadDraw(x)) {
            return BAD;
        }
        return fractionPart(bow.pullAt(x), bow.allGives(), upper);
    }

    public long strain(int place, int x) {
        Place p = bow.placeTold(place);
        if (p == null) {
            return UNKNOWN;
        }
        if (isBadDraw(x)) {
            return BAD;
        }
        return bow.strainOf(p, bow.pullAt(x), bow.allGives());
    }

    public int draw(int x) {
        if (isBadDraw(x)) {
            return BAD;
        }
        if (bow.brokenAt != NONE) {
            return LATE;
        }
        // All strains are those from before any place takes a set.
        long pull = bow.pullAt(x);
        long gives = bow.allGives();
        Place breaking = bow.breakingPlace(pull, gives);
        if (breaking != null) {
            bow.brokenAt = breaking.told;
            return BREAKS + breaking.told;
        }
        return bow.takeSets(pull, gives);
    }

    public int broken() {
        return bow.brokenAt;
    }

    public int scrape(int place, int s) {
        Place p = bow.placeTold(place);
        if (p == null) {
            return UNKNOWN;
        }
        if (isOutside(s, 1, 9)) {
            return BAD;
        }
        if (bow.brokenAt != NONE || p.depth - s < LEAST_DEPTH) {
            return LATE;
        }
        p.depth -= s;
        return p.depth;
    }

    public int steam(int place) {
        Place p = bow.placeTold(place);
        if (p == null) {
            return UNKNOWN;
        }
        if (bow.brokenAt != NONE) {
            return LATE;
        }
        p.sets = p.sets / 2;
        return p.sets;
    }

    // ---- how it is

    public int hinge(int x) {
        return isBadDraw(x) ? BAD : bow.extremePlace(x, true);
    }

    public int stiff(int x) {
        return isBadDraw(x) ? BAD : bow.extremePlace(x, false);
    }

    public int even(int x) {
        return isBadDraw(x) ? BAD : bow.evenness(bow.pullAt(x), bow.allGives());
    }

    public int next(int x, int f) {
        if (isBadDraw(x) || isOutside(f, 0, MOST_WEIGHT)) {
            return BAD;
        }
        return search.nextPlace(bow, x, f);
    }

    public int best(int x, int f, int n) {
        if (isBadSearch(x, f, n)) {
            return BAD;
        }
        search.seek(bow, x, f, n);
        return search.foundEven;
    }

    public int bestAt(int x, int f, int n, int i) {
        if (isBadSearch(x, f, n)) {
            return BAD;
        }
        search.seek(bow, x, f, n);
        return search.foundPlace(i);
    }

    public int form(int place, int f, int s) {
        Place p = bow.placeTold(place);
        if (p == null) {
            return UNKNOWN;
        }
        return isBadForm(f, s) ? BAD : bow.formDepth(p, f, s);
    }

    public int shape(int f, int s) {
        if (isBadForm(f, s)) {
            return BAD;
        }
        return bow.hasForm(f, s) ? bow.takeForm(f, s) : LATE;
    }

    // ---- what comes of it

    public long pace(int m, int x, boolean upper) {
        if (isOutside(m, 1, 99) || isBadDraw(x)) {
            return BAD;
        }
        return fractionPart(bow.pullAt(x) * x, bow.allGives() * (m + bow.load()), upper);
    }

    public long wet(int u, int x, boolean upper) {
        if (isOutside(u, 0, 50) || isBadDraw(x)) {
            return BAD;
        }
        return fractionPart(bow.pullAt(x) * (100 - u), bow.allGives() * 100, upper);
    }

    public long lost(int place, int a, int b, int x, boolean most, boolean upper) {
        Place last = bow.placeTold(place);
        if (last == null) {
            return UNKNOWN;
        }
        if (isOutside(a, LEAST_DEPTH, MOST_DEPTH) || isOutside(b, a, MOST_DEPTH) || isBadDraw(x)) {
            return BAD;
        }
        // A deeper place gives less, and the less all give the more the bow weighs.
        return fractionPart(bow.pullAt(x), bow.givesIfLost(last, most ? b : a), upper);
    }

    public int see(int place, int v) {
        Place p = bow.placeTold(place);
        if (p == null) {
            return UNKNOWN;
        }
        if (isOutside(v, 0, MOST_SEEN)) {
            return BAD;
        }
        int was = p.seen;
        p.seen = v;
        return was;
    }

    public int off(int place) {
        Place p = bow.placeTold(place);
        if (p == null) {
            return UNKNOWN;
        }
        int seen = bow.allSeen();
        return seen == 0 ? LATE : bow.offBy(p, seen, bow.allGives()) + 1000;
    }

    public int tooStiff() {
        return bow.leastOffPlace();
    }

    // ---- chances, kept

    public long slips(int place, int n, int t, int y, boolean upper) {
        Place p = bow.placeTold(place);
        if (p == null) {
            return UNKNOWN;
        }
        if (isOutside(n, 1, MOST_TRIES) || isOutside(t, 0, TENTHS) || isOutside(y, 0, MOST_DEPTH)) {
            return BAD;
        }
        // n scrapes take n and one more for each that slips.
        return fractionPart(waysBetween(n, t, 0, p.depth - n - y), power(TENTHS, n), upper);
    }

    public long good(int m, int t, int k, boolean upper) {
        if (isOutside(m, 1, MOST_TRIES) || isOutside(t, 0, TENTHS) || isOutside(k, 0, m)) {
            return BAD;
        }
        return fractionPart(waysBetween(m, t, k, m), power(TENTHS, m), upper);
    }

    public int keep(int slot) {
        Slot s = slotNumbered(slot);
        if (s == null) {
            return UNKNOWN;
        }
        s.bow.copyFrom(bow);
        s.filled = true;
        return bow.size;
    }

    public int again(int slot) {
        Slot s = slotNumbered(slot);
        if (s == null) {
            return UNKNOWN;
        }
        if (!s.filled) {
            return LATE;
        }
        bow.copyFrom(s.bow);
        return bow.size;
    }

    public int count(int what) {
        switch (what) {
            case 0:
                return text.length;
            case 1:
                return bow.size;
            case 2:
                return bow.allKnots();
            case 3:
                return bow.allSets();
            case 4:
                return bow.allSeen();
            default:
                return BAD;
        }
    }

    // ---- what several calls share

    private Slot slotNumbered(int slot) {
        return slot >= 0 && slot < slots.length ? slots[slot] : null;
    }

    private static boolean isOutside(int value, int least, int most) {
        return value < least || value > most;
    }

    private static boolean isBadDraw(int x) {
        return isOutside(x, 0, MOST_INCHES);
    }

    private static boolean isBadSearch(int x, int f, int n) {
        return isBadDraw(x) || isOutside(f, 0, MOST_WEIGHT) || isOutside(n, 1, MOST_SCRAPES);
    }

    private static boolean isBadForm(int f, int s) {
        return isOutside(f, 1, MOST_WEIGHT) || isOutside(s, 1, MOST_LINE);
    }

    private static long quotient(long top, long bottom) {
        return bottom > 0 ? top / bottom : 0;
    }

    private static long fractionPart(long top, long bottom, boolean upper) {
        return quotient(upper ? top : bottom, commonDivisor(top, bottom));
    }

    private static long commonDivisor(long a, long b) {
        long big = a;
        long small = b;
        for (int i = 0; i < 1000 && small != 0; i++) {
            long rest = big % small;
            big = small;
            small = rest;
        }
        return big;
    }

    private static long power(long base, int times) {
        long product = 1;
        for (int i = 0; i < times; i++) {
            product *= base;
        }
        return product;
    }

    /** Of all ways in which n tries by t tenths can go, told in tenths to the n-th: those with from .. to hits. */
    private static long waysBetween(int n, int t, int from, int to) {
        long ways = 0;
        long choices = 1;
        for (int hits = 0; hits <= n; hits++) {
            if (hits >= from && hits <= to) {
                ways += choices * power(t, hits) * power(TENTHS - t, n - hits);
            }
            choices = quotient(choices * (n - hits), hits + 1);
        }
        return ways;
    }

    /** THE TEXT. */
    private static final class Text {
        private final int[] bytes;
        private int length;

        Text() {
            bytes = new int[MOST_BYTES];
            length = 0;
        }

        void append(int sign) {
            if (length >= 0 && length < bytes.length) {
                bytes[length] = sign;
                length++;
            }
        }

        int signAt(int at) {
            return at >= 0 && at < length && at < bytes.length ? bytes[at] : NONE;
        }

        int figureAt(int at) {
            return signAt(at) - '0';
        }

        int firstFault() {
            int slash = slashAt();
            for (int at = 0; at < length; at++) {
                if (!fits(at, slash)) {
                    return at;
                }
            }
            return slash != NONE && length == 2 * slash + 1 ? NONE : length;
        }

        /** Where the first limb ends, or NONE: only behind a whole place can it end at all. */
        int slashAt() {
            for (int n = 1; n <= MOST_PLACES; n++) {
                if (signAt(FIGURES * n) == '/') {
                    return FIGURES * n;
                }
            }
            return NONE;
        }

        private boolean fits(int at, int slash) {
            if (slash == NONE || at < slash) {
                return at < FIGURES * MOST_PLACES && figureFits(at, at % FIGURES);
            }
            return at == slash || at <= 2 * slash && figureFits(at, (at - slash - 1) % FIGURES);
        }

        private boolean figureFits(int at, int which) {
            int figure = figureAt(at);
            switch (which) {
                case 0:
                    return figure >= 1 && figure <= 9;
                case 1:
                    return figure >= 0 && figure <= MOST_DEPTH / 10;
                case 2:
                    return figure >= 0 && figure <= 9 && depthFits(10 * figureAt(at - 1) + figure);
                default:
                    return figure >= 0 && figure <= 2;
            }
        }

        private boolean depthFits(int depth) {
            return depth >= LEAST_DEPTH && depth <= MOST_DEPTH;
        }
    }

    /** What a wood bears. */
    private static final class Wood {
        private int e;
        private int pull;
        private int press;

        Wood(int e, int pull, int press) {
            this.e = e;
            this.pull = pull;
            this.press = press;
        }

        void become(int newE, int newPull, int newPress) {
            e = newE;
            pull = newPull;
            press = newPress;
        }
    }

    /** A place of a limb; its limb and how far it is from the tip never change. */
    private static final class Place {
        private final int side;
        private final int arm;
        private final int told;
        private int width;
        private int depth;
        private int wood;
        private int sets;
        private int seen;
        private boolean knotted;

        Place(int side, int k) {
            this.side = side;
            arm = k + 1;
            told = LIMB_STEP * side + k;
            width = 5;
            depth = 20;
        }

        void makeAnew(int newWidth, int newDepth, int newWood) {
            width = newWidth;
            depth = newDepth;
            wood = newWood;
            sets = 0;
            seen = 0;
            knotted = false;
        }

        void copyFrom(Place other) {
            width = other.width;
            depth = other.depth;
            wood = other.wood;
            sets = other.sets;
            seen = other.seen;
            knotted = other.knotted;
        }
    }

    /** What a slot keeps. */
    private static final class Slot {
        private final Bow bow;
        private boolean filled;

        Slot() {
            bow = new Bow();
            filled = false;
        }
    }

    /** THE STAVE with its woods. */
    private static final class Bow {
        private final Wood[] woods;
        private final Place[] places;
        private int size;
        private int brokenAt;

        Bow() {
            woods = new Wood[] {new Wood(5, 60, 40), new Wood(7, 80, 50), new Wood(3, 40, 20)};
            places = new Place[LIMBS * MOST_PLACES];
            for (int i = 0; i < places.length; i++) {
                places[i] = new Place(i / MOST_PLACES, i % MOST_PLACES);
            }
            size = 1;
            brokenAt = NONE;
        }

        /** The text is one without a fault. */
        void makeAnew(Text text) {
            int slash = text.slashAt();
            size = slash / FIGURES;
            brokenAt = NONE;
            for (Place p : places) {
                if (has(p)) {
                    int at = p.side * (slash + 1) + FIGURES * (p.arm - 1);
                    int depth = 10 * text.figureAt(at + 1) + text.figureAt(at + 2);
                    p.makeAnew(text.figureAt(at), depth, text.figureAt(at + 3));
                }
            }
        }

        void copyFrom(Bow other) {
            size = other.size;
            brokenAt = other.brokenAt;
            for (int i = 0; i < woods.length && i < other.woods.length; i++) {
                woods[i].become(other.woods[i].e, other.woods[i].pull, other.woods[i].press);
            }
            for (int i = 0; i < places.length && i < other.places.length; i++) {
                places[i].copyFrom(other.places[i]);
            }
        }

        boolean has(Place p) {
            return p.arm <= size;
        }

        Place placeTold(int told) {
            for (Place p : places) {
                if (p.told == told && has(p)) {
                    return p;
                }
            }
            return null;
        }

        Wood woodNumbered(int wood) {
            return wood >= 0 && wood < woods.length ? woods[wood] : null;
        }

        private long eOf(Place p) {
            return p.wood >= 0 && p.wood < woods.length ? woods[p.wood].e : 1;
        }

        private long pullLineOf(Place p) {
            Wood w = woodNumbered(p.wood);
            if (w == null) {
                return 0;
            }
            return p.knotted ? w.pull / 2 : w.pull;
        }

        private long pressLineOf(Place p) {
            Wood w = woodNumbered(p.wood);
            return w == null ? 0 : w.press;
        }

        long giveOf(Place p) {
            return giveAtDepth(p, p.depth);
        }

        private long giveAtDepth(Place p, long depth) {
            return quotient(1000000000L * p.arm * p.arm, eOf(p) * p.width * depth * depth * depth);
        }

        long limbGives(int limb) {
            long gives = 0;
            for (Place p : places) {
                if (has(p) && p.side == limb) {
                    gives += giveOf(p);
                }
            }
            return gives;
        }

        long allGives() {
            return limbGives(0) + limbGives(1);
        }

        /** What all places give if those of last's limb from the tip to it are so deep. */
        long givesIfLost(Place last, int depth) {
            long gives = 0;
            for (Place p : places) {
                if (has(p)) {
                    boolean isLost = p.side == last.side && p.arm <= last.arm;
                    gives += giveAtDepth(p, isLost ? depth : p.depth);
                }
            }
            return gives;
        }

        int followed() {
            return allSets() / 10;
        }

        /** The weight at x, but for being parted by what all places give. */
        long pullAt(int x) {
            return 2000000L * Math.max(0, x - followed());
        }

        boolean weighs(int f, long pull, long gives) {
            return pull >= f * gives;
        }

        long strainOf(Place p, long pull, long gives) {
            long bears = eOf(p) * p.width * p.depth * p.depth;
            return quotient(pull * p.arm * 1000000L, gives * bears);
        }

        /** Where it breaks, or null. */
        Place breakingPlace(long pull, long gives) {
            Place worst = null;
            long most = 0;
            for (Place p : places) {
                if (has(p)) {
                    long above = strainOf(p, pull, gives) - 1000 * pullLineOf(p);
                    if (above > most) {
                        most = above;
                        worst = p;
                    }
                }
            }
            return worst;
        }

        int takeSets(long pull, long gives) {
            int taking = 0;
            for (Place p : places) {
                if (has(p)) {
                    long above = strainOf(p, pull, gives) - 1000 * pressLineOf(p);
                    if (above > 0) {
                        p.sets = (int) Math.min(MOST_SET, p.sets + (above + 999) / 1000);
                        taking++;
                    }
                }
            }
            return taking;
        }

        int extremePlace(int x, boolean greatest) {
            long pull = pullAt(x);
            long gives = allGives();
            int found = NONE;
            long foundStrain = 0;
            for (Place p : places) {
                if (has(p)) {
                    long strain = strainOf(p, pull, gives);
                    boolean beats = greatest ? strain > foundStrain : strain < foundStrain;
                    if (found == NONE || beats) {
                        found = p.told;
                        foundStrain = strain;
                    }
                }
            }
            return found;
        }

        int evenness(long pull, long gives) {
            long least = NONE;
            long greatest = 0;
            for (Place p : places) {
                if (has(p)) {
                    long strain = strainOf(p, pull, gives);
                    least = least == NONE ? strain : Math.min(least, strain);
                    greatest = Math.max(greatest, strain);
                }
            }
            return greatest == 0 ? 1000 : (int) quotient(1000 * least, greatest);
        }

        int formDepth(Place p, int f, int s) {
            long needed = 1000L * f * p.arm;
            for (int depth = LEAST_DEPTH; depth <= MOST_DEPTH; depth++) {
                if (needed <= s * eOf(p) * p.width * depth * depth) {
                    return depth;
                }
            }
            return NONE;
        }

        boolean hasForm(int f, int s) {
            for (Place p : places) {
                if (has(p) && formDepth(p, f, s) == NONE) {
                    return false;
                }
            }
            return true;
        }

        int takeForm(int f, int s) {
            int changed = 0;
            for (Place p : places) {
                if (has(p)) {
                    int depth = formDepth(p, f, s);
                    if (depth != p.depth) {
                        changed++;
                    }
                    p.depth = depth;
                }
            }
            return changed;
        }

        long load() {
            long load = 0;
            for (Place p : places) {
                if (has(p)) {
                    load += p.width * p.depth * (size + 1 - p.arm);
                }
            }
            return load / 100;
        }

        int offBy(Place p, int seen, long gives) {
            return (int) (quotient(1000L * p.seen, seen) - quotient(1000 * giveOf(p), gives));
        }

        int leastOffPlace() {
            int seen = allSeen();
            long gives = allGives();
            int found = NONE;
            int foundOff = 0;
            for (Place p : places) {
                if (has(p) && seen > 0) {
                    int off = offBy(p, seen, gives);
                    if (found == NONE || off < foundOff) {
                        found = p.told;
                        foundOff = off;
                    }
                }
            }
            return found;
        }

        int allKnots() {
            int knots = 0;
            for (Place p : places) {
                if (has(p) && p.knotted) {
                    knots++;
                }
            }
            return knots;
        }

        int allSets() {
            int sets = 0;
            for (Place p : places) {
                if (has(p)) {
                    sets += p.sets;
                }
            }
            return sets;
        }

        int allSeen() {
            int seen = 0;
            for (Place p : places) {
                if (has(p)) {
                    seen += p.seen;
                }
            }
            return seen;
        }
    }

    /** The looks ahead. They scrape the bow itself and put back what they took, which spares a copy. */
    private static final class Search {
        private final int[] way;
        private final int[] found;
        private int foundCount;
        private int foundEven;
        private long pull;
        private int leastWeight;
        private int most;

        Search() {
            way = new int[MOST_SCRAPES];
            found = new int[MOST_SCRAPES];
            foundEven = NONE;
        }

        int nextPlace(Bow bow, int x, int f) {
            long pullAtX = bow.pullAt(x);
            int nextEven = bow.evenness(pullAtX, bow.allGives());
            int next = NONE;
            for (Place p : bow.places) {
                if (bow.has(p) && p.depth > LEAST_DEPTH) {
                    p.depth--;
                    long gives = bow.allGives();
                    int even = bow.weighs(f, pullAtX, gives) ? bow.evenness(pullAtX, gives) : NONE;
                    p.depth++;
                    if (even > nextEven) {
                        nextEven = even;
                        next = p.told;
                    }
                }
            }
            return next;
        }

        void seek(Bow bow, int x, int f, int n) {
            pull = bow.pullAt(x);
            leastWeight = f;
            most = n;
            foundEven = NONE;
            foundCount = 0;
            tryWays(this, bow, 0, 0, bow.allGives());
        }

        int foundPlace(int i) {
            return i >= 0 && i < foundCount && i < found.length ? found[i] : NONE;
        }

        /** Ways of as many scrapes come with the least places first, so of these the first stays. */
        private static void tryWays(Search s, Bow bow, int from, int taken, long gives) {
            s.judge(bow, taken, gives);
            if (taken < 0 || taken >= s.most || taken >= s.way.length) {
                return;
            }
            for (Place p : bow.places) {
                if (bow.has(p) && p.told >= from && p.depth > LEAST_DEPTH) {
                    long others = gives - bow.giveOf(p);
                    p.depth--;
                    s.way[taken] = p.told;
                    tryWays(s, bow, p.told, taken + 1, others + bow.giveOf(p));
                    p.depth++;
                }
            }
        }

        private void judge(Bow bow, int taken, long gives) {
            if (!bow.weighs(leastWeight, pull, gives)) {
                return;
            }
            int even = bow.evenness(pull, gives);
            if (even > foundEven || even == foundEven && taken < foundCount) {
                foundEven = even;
                foundCount = taken;
                System.arraycopy(way, 0, found, 0, Math.min(way.length, found.length));
            }
        }
    }
}
