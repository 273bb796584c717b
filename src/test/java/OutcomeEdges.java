/** The edges that the document names of promises 27 to 32: what comes of it, what is seen. */
public final class OutcomeEdges extends Edges {
    public static void main(String[] args) throws Exception {
        new OutcomeEdges().run(27, 32);
    }

    private void paceDue(String signs, int m, int x, long top, long bottom) {
        BowBend bow = Check.bowOf(signs);
        fractionOf("pace of " + m + " at " + x, () -> bow.pace(m, x, true), () -> bow.pace(m, x, false), top, bottom);
    }

    // ---- promise 27

    @Says(promise = 27, value = "PACE by an arrow of m (1 .. 99) at x")
    private void paceArrows() {
        bounds(Edges::newBow, "pace above of", (x, m) -> x.pace(m, 4, true), 1, 3200, 99, 3200, BAD);
        bounds(Edges::newBow, "pace below of", (x, m) -> x.pace(m, 4, false), 1, 3, 99, 101, BAD);
    }

    @Says(promise = 27, value = "PACE. BAD: m, x.")
    private void paceInches() {
        bounds(Edges::newBow, "pace above at", (x, v) -> x.pace(1, v, true), 0, 0, 40, 320000, BAD);
        bounds(Edges::newBow, "pace below at", (x, v) -> x.pace(1, v, false), 0, 1, 40, 3, BAD);
    }

    @Says(promise = 27, value = "WEIGHT times x by (m and LIMBS' load together), a FRACTION")
    private void paceOfWhatFollows() {
        BowBend x = newBow();
        x.draw(3);
        fraction("no weight at 4", () -> x.pace(1, 4, true), 0, () -> x.pace(1, 4, false), 1);
        fraction("200 and 5 inches", () -> x.pace(1, 5, true), 1000, () -> x.pace(1, 5, false), 3);
        fraction("in least terms", () -> x.pace(8, 5, true), 100, () -> x.pace(8, 5, false), 1);
    }

    @Says(promise = 27, value = "of each PLACE width times depth times (n less k), of all together, by 100 (cut)")
    private void paceLoad() {
        paceDue("9040/7090", 1, 4, 32000000L, 347222L + 39192);
        paceDue("9040/8080", 1, 4, 32000000L, (347222L + 48828) * 2);
        paceDue("5190/5200", 1, 4, 32000000L, (5831L + 5000) * 2);
        paceDue("5200/5200", 1, 4, 32000000L, 10000L * 3);
        paceDue(alike(2, "5200"), 1, 1, 2000000L, 50000L * 7);
        paceDue(alike(6, "1100"), 1, 1, 2000000L, 200000L * 182 * 5);
        paceDue(alike(6, "9400"), 99, 40, 3200000000L, sumOfGives(9, 40) * 250);
        paceDue("52009400/52005200", 2, 4, 32000000L, 31388L * 10);
        paceDue("94005200/52005200", 2, 4, 32000000L, 45347L * 13);
    }

    /** What two limbs of six places of wood 0 give. */
    private static long sumOfGives(int width, int depth) {
        long gives = 0;
        for (int arm = 1; arm <= 6; arm++) {
            gives += 2 * (1000000000L * arm * arm / (5L * width * depth * depth * depth));
        }
        return gives;
    }

    // ---- promise 28

    @Says(promise = 28, value = "On a WET day of u (0 .. 50) WEIGHT is 100 less u parts of a hundred.")
    private void wetDays() {
        bounds(Edges::newBow, "wet above of", (x, u) -> x.wet(u, 4, true), 0, 800, 50, 400, BAD);
        bounds(Edges::newBow, "wet below of", (x, u) -> x.wet(u, 4, false), 0, 1, 50, 1, BAD);
        BowBend x = newBow();
        fraction("99 of a hundred", () -> x.wet(1, 1, true), 198, () -> x.wet(1, 1, false), 1);
        fraction("51 of a hundred", () -> x.wet(49, 1, true), 102, () -> x.wet(49, 1, false), 1);
        BowBend y = Check.bowOf("5210/5200");
        fractionOf("93 of a hundred", () -> y.wet(7, 3, true), () -> y.wet(7, 3, false), 6000000L * 93, 931900);
    }

    @Says(promise = 28, value = "WEIGHT on a WET day. BAD: u, x.")
    private void wetInches() {
        bounds(Edges::newBow, "wet above at", (x, v) -> x.wet(50, v, true), 0, 0, 40, 4000, BAD);
        bounds(Edges::newBow, "wet below at", (x, v) -> x.wet(50, v, false), 0, 1, 40, 1, BAD);
        BowBend x = newBow();
        x.draw(3);
        fraction("as it follows", () -> x.wet(0, 4, true), 0, () -> x.wet(0, 4, false), 1);
        fraction("an inch beyond", () -> x.wet(0, 5, true), 200, () -> x.wet(0, 5, false), 1);
    }

    // ---- promise 29

    @Says(promise = 29, value = "UNKNOWN: place (the last that is not known); BAD: a, b, x.")
    private void lostPlaces() {
        places("lost", (x, v) -> x.lost(v, 4, 40, 1, true, true));
        refused(Edges::newBow, "UNKNOWN before a", (x, v) -> x.lost(v, 3, 40, 1, true, true), UNKNOWN, -1, 1, 9, 11, LOW, HIGH);
        refused(Edges::newBow, "UNKNOWN before b", (x, v) -> x.lost(v, 4, 41, 1, false, false), UNKNOWN, -1, 1, 9, 11, LOW, HIGH);
        refused(Edges::newBow, "UNKNOWN before x", (x, v) -> x.lost(v, 4, 40, 41, true, false), UNKNOWN, -1, 1, 9, 11, LOW, HIGH);
    }

    @Says(promise = 29, value = "PLACES 0 .. k are not known but for being a to b deep (4 .. 40, a no more than b)")
    private void lostDepths() {
        bounds(Edges::newBow, "a above", (x, a) -> x.lost(0, a, 40, 4, false, true), 4, 800, 40, 12800, BAD);
        bounds(Edges::newBow, "a below", (x, a) -> x.lost(0, a, 40, 4, false, false), 4, 63, 40, 9, BAD);
        bounds(Edges::newBow, "b above", (x, b) -> x.lost(10, 4, b, 4, true, true), 4, 800, 40, 12800, BAD);
        bounds(Edges::newBow, "b below", (x, b) -> x.lost(10, 4, b, 4, true, false), 4, 63, 40, 9, BAD);
        bounds(Edges::newBow, "b from 20", (x, b) -> x.lost(0, 20, b, 4, true, true), 20, 800, 40, 12800, BAD);
        bounds(Edges::newBow, "a to 20", (x, a) -> x.lost(0, a, 20, 4, false, true), 4, 800, 20, 800, BAD);
        refused(Edges::newBow, "a more than b", (x, a) -> x.lost(0, a, a - 1, 4, false, true), BAD, 5, 20, 40);
    }

    @Says(promise = 29, value = "LOST: the least WEIGHT (most = false), the greatest.")
    private void lostInches() {
        bounds(Edges::newBow, "least at", (x, v) -> x.lost(0, 20, 20, v, false, true), 0, 0, 40, 8000, BAD);
        bounds(Edges::newBow, "greatest at", (x, v) -> x.lost(0, 20, 20, v, true, true), 0, 0, 40, 8000, BAD);
        bounds(Edges::newBow, "greatest below at", (x, v) -> x.lost(0, 20, 20, v, true, false), 0, 1, 40, 1, BAD);
        due("least", newBow().lost(0, 10, 40, 4, false, true), 1600);
        due("greatest", newBow().lost(0, 10, 40, 4, true, true), 12800);
    }

    @Says(promise = 29, value = "of a LIMB PLACES 0 .. k are not known")
    private void lostFromTheTipOn() {
        long[] first = {5000, 20000, 45000, 80000, 125000, 180000};
        for (int place = 0; place < 6; place++) {
            int last = place;
            long gives = 910000;
            for (int k = 0; k <= place; k++) {
                gives += first[k] * 7;
            }
            BowBend x = Check.bowOf(alike(6, "5200"));
            fractionOf("to " + place, () -> x.lost(last, 10, 20, 1, false, true), () -> x.lost(last, 10, 20, 1, false, false), 2000000, gives);
            fractionOf("to " + (place + 10), () -> x.lost(last + 10, 10, 20, 1, false, true),
                () -> x.lost(last + 10, 10, 20, 1, false, false), 2000000, gives);
            still(x, "it is as it was", () -> x.lost(last, 4, 4, 40, true, true) > 0 ? 1 : 0, 1);
        }
    }

    @Says(promise = 29, value = "of a LIMB PLACES 0 .. k are not known")
    private void lostOfUnlikeLimbs() {
        // They give 5000, 190476 and 48225, 1388; 20 deep 5000, 23809 and 10416, 11111.
        long[] known = {240089, 49613, 196864, 195476};
        long[] lost = {5000, 28809, 10416, 21527};
        for (int i = 0; i < 4; i++) {
            int place = i / 2 * 10 + i % 2;
            BowBend x = Check.bowOf("52003101/41229400");
            fractionOf("to " + place, () -> x.lost(place, 20, 20, 1, true, true), () -> x.lost(place, 20, 20, 1, true, false),
                2000000, known[i] + lost[i]);
        }
    }

    // ---- promise 30

    @Says(promise = 30, value = "What is SEEN of a PLACE: what it was. UNKNOWN; BAD: v.")
    private void seenPlaces() {
        places("see", (x, v) -> x.see(v, 1));
        refused(Edges::newBow, "UNKNOWN before BAD", (x, v) -> x.see(v, 100), UNKNOWN, -1, 1, 9, 11, LOW, HIGH);
        refused(Edges::newBow, "UNKNOWN before BAD", (x, v) -> x.see(v, -1), UNKNOWN, -1, 1, 9, 11, LOW, HIGH);
        BowBend x = newBow();
        due("was 0", x.see(10, 99), 0);
        due("was 99", x.see(10, 0), 99);
        due("was 0", x.see(10, 1), 0);
        due("the other's", x.see(0, 1), 0);
    }

    @Says(promise = 30, value = "SEEN are bends of PLACES (0 .. 99;")
    private void seenBends() {
        bounds(Edges::newBow, "see", (x, v) -> x.see(10, v), 0, 0, 99, 0, BAD);
        bounds(Edges::newBow, "see then", (x, v) -> x.see(10, v) == BAD ? BAD : x.about(10, 5), 0, 0, 99, 99, BAD);
        bounds(OutcomeEdges::bowSeen, "see of what is seen", (x, v) -> x.see(10, v), 0, 42, 99, 42, BAD);
    }

    private static BowBend bowSeen() {
        BowBend x = newBow();
        x.see(10, 42);
        return x;
    }

    // ---- promise 31

    @Says(promise = 31, value = "UNKNOWN; LATE: nothing is SEEN.")
    private void offRefusals() {
        places("off", BowBend::off);
        refused(Edges::newBow, "nothing is seen", BowBend::off, LATE, 0, 10);
        refused(Edges::newBow, "UNKNOWN before LATE", BowBend::off, UNKNOWN, -1, 1, 9, 11, LOW, HIGH);
        BowBend x = bowSeen();
        due("the least that is seen", x.see(10, 1), 42);
        due("off", x.off(0), 500);
        x.see(10, 0);
        still(x, "nothing any more", () -> x.off(0), LATE);
        BowBend y = bowSeen();
        Check.put(y, "5200/5200");
        y.stave();
        still(y, "nothing, as it is made anew", () -> y.off(10), LATE);
    }

    @Says(promise = 31, value = "1000 times what is SEEN of it by all that is SEEN (cut), less 1000 times its GIVE by all GIVE (cut)")
    private void offIsCutTwice() {
        BowBend x = newBow();
        x.see(0, 1);
        x.see(10, 2);
        due("333 less 500, and 1000", x.off(0), 833);
        due("666 less 500, and 1000", x.off(10), 1166);
        BowBend y = Check.bowOf("5210/5200");
        y.see(0, 1);
        y.see(10, 1);
        due("500 less 463, and 1000", y.off(0), 1037);
        due("500 less 536, and 1000", y.off(10), 964);
    }

    @Says(promise = 31, value = "OFF, and 1000.")
    private void leastAndGreatestOff() {
        BowBend x = Check.bowOf("5040/5400");
        x.see(10, 1);
        due("0 less 999, and 1000", x.off(0), 1);
        due("1000 less 0, and 1000", x.off(10), 2000);
        BowBend y = newBow();
        y.see(0, 99);
        y.see(10, 99);
        due("as it should be", y.off(0), 1000);
        BowBend z = Check.bowOf(alike(6, "5200"));
        for (int i = 0; i < 12; i++) {
            z.see(i / 6 * 10 + i % 6, 99);
        }
        due("83 less 5, and 1000", z.off(0), 1078);
        due("83 less 197, and 1000", z.off(15), 886);
    }

    // ---- promise 32

    @Says(promise = 32, value = "NONE: nothing is SEEN.")
    private void tooStiffOfNothing() {
        BowBend x = newBow();
        still(x, "a new one", x::tooStiff, NONE);
        x.see(0, 1);
        due("the least that is seen", x.tooStiff(), 10);
        x.see(0, 0);
        due("nothing any more", x.tooStiff(), NONE);
        BowBend y = bowSeen();
        Check.put(y, "5200/5200");
        y.stave();
        due("nothing, as it is made anew", y.tooStiff(), NONE);
    }

    @Says(promise = 32, value = "TOO STIFF: the PLACE with the least OFF; of like ones the least told")
    private void tooStiffOfLikeOnes() {
        BowBend x = newBow();
        x.see(0, 5);
        x.see(10, 5);
        due("both alike", x.tooStiff(), 0);
        x.see(0, 6);
        due("the last", x.tooStiff(), 10);
        x.see(10, 7);
        due("the first", x.tooStiff(), 0);
        BowBend y = Check.bowOf(alike(2, "5200"));
        seeAll(y, 1, 1, 1, 1);
        due("250 less 400, twice", y.tooStiff(), 1);
        seeAll(y, 1, 2, 1, 1);
        due("200 less 400", y.tooStiff(), 11);
        seeAll(y, 0, 2, 0, 2);
        due("0 less 100, twice", y.tooStiff(), 0);
        seeAll(y, 1, 7, 0, 2);
        due("200 less 400, of which none is like", y.tooStiff(), 11);
        seeAll(y, 10, 45, 0, 45);
        due("0 less 100 alone", y.tooStiff(), 10);
    }

    private static void seeAll(BowBend x, int... bends) {
        for (int i = 0; i < 4; i++) {
            x.see(i / 2 * 10 + i % 2, bends[i]);
        }
    }
}
