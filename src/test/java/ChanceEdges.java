/** The edges that the document names of promises 33 to 37: chances, what is kept, what is counted. */
public final class ChanceEdges extends Edges {
    public static void main(String[] args) throws Exception {
        new ChanceEdges().run(33, 37);
    }

    private void slipsDue(String signs, int n, int t, int y, long upper, long lower) {
        BowBend x = Check.bowOf(signs);
        String call = "slips of " + signs + ", " + n + ", " + t + ", " + y;
        fraction(call, () -> x.slips(0, n, t, y, true), upper, () -> x.slips(0, n, t, y, false), lower);
    }

    // ---- promise 33

    @Says(promise = 33, value = "UNKNOWN: place; BAD: n, t, y.")
    private void slipsPlaces() {
        places("slips", (x, v) -> x.slips(v, 1, 5, 0, true));
        refused(Edges::newBow, "UNKNOWN before n", (x, v) -> x.slips(v, 0, 5, 0, true), UNKNOWN, -1, 1, 9, 11, LOW, HIGH);
        refused(Edges::newBow, "UNKNOWN before t", (x, v) -> x.slips(v, 1, 11, 0, false), UNKNOWN, -1, 1, 9, 11, LOW, HIGH);
        refused(Edges::newBow, "UNKNOWN before y", (x, v) -> x.slips(v, 1, 5, 41, true), UNKNOWN, -1, 1, 9, 11, LOW, HIGH);
    }

    @Says(promise = 33, value = "SLIPS: of n scrapes (1 .. 12) each takes 2 by t tenths (0 .. 10), else 1")
    private void slipsScrapesAndTenths() {
        bounds(Edges::newBow, "n above", (x, n) -> x.slips(0, n, 5, 8, true), 1, 1, 12, 1, BAD);
        bounds(Edges::newBow, "n below", (x, n) -> x.slips(0, n, 5, 8, false), 1, 1, 12, 4096, BAD);
        bounds(Edges::newBow, "t above", (x, t) -> x.slips(0, 2, t, 18, true), 0, 1, 10, 0, BAD);
        bounds(Edges::newBow, "t below", (x, t) -> x.slips(0, 2, t, 18, false), 0, 1, 10, 1, BAD);
        slipsDue("5200/5200", 12, 0, 8, 1, 1);
        slipsDue("5200/5200", 12, 0, 9, 0, 1);
        slipsDue("5240/5200", 12, 10, 0, 1, 1);
        slipsDue("5240/5200", 12, 10, 1, 0, 1);
        slipsDue("5200/5200", 1, 1, 19, 9, 10);
        slipsDue("5200/5200", 1, 9, 19, 1, 10);
        slipsDue("5200/5200", 12, 1, 8, 282429536481L, 1000000000000L);
        slipsDue("5200/5200", 12, 9, 8, 1, 1000000000000L);
    }

    @Says(promise = 33, value = "the chance that a PLACE is y (0 .. 40) deep or deeper behind them")
    private void slipsDepths() {
        bounds(Edges::newBow, "y above", (x, y) -> x.slips(10, 1, 5, y, true), 0, 1, 40, 0, BAD);
        bounds(Edges::newBow, "y below", (x, y) -> x.slips(10, 1, 5, y, false), 0, 1, 40, 1, BAD);
        slipsDue("5200/5200", 1, 5, 17, 1, 1);
        slipsDue("5200/5200", 1, 5, 18, 1, 1);
        slipsDue("5200/5200", 1, 5, 19, 1, 2);
        slipsDue("5200/5200", 1, 5, 20, 0, 1);
        slipsDue("5400/5200", 1, 5, 38, 1, 1);
        slipsDue("5400/5200", 1, 5, 39, 1, 2);
        slipsDue("5400/5200", 1, 5, 40, 0, 1);
        slipsDue("5200/5200", 2, 5, 16, 1, 1);
        slipsDue("5200/5200", 2, 5, 17, 3, 4);
        slipsDue("5200/5200", 2, 5, 18, 1, 4);
        slipsDue("5200/5200", 2, 5, 19, 0, 1);
    }

    @Says(promise = 33, value = "behind them (4 does not count)")
    private void slipsBelow4() {
        slipsDue("5040/5200", 1, 5, 2, 1, 1);
        slipsDue("5040/5200", 1, 5, 3, 1, 2);
        slipsDue("5040/5200", 1, 5, 4, 0, 1);
        slipsDue("5040/5200", 2, 5, 0, 1, 1);
        slipsDue("5040/5200", 2, 5, 1, 3, 4);
        slipsDue("5040/5200", 4, 5, 0, 1, 16);
        slipsDue("5040/5200", 4, 5, 1, 0, 1);
        slipsDue("5040/5200", 5, 0, 0, 0, 1);
        slipsDue("5040/5200", 12, 10, 0, 0, 1);
        BowBend x = Check.bowOf("5040/5200");
        still(x, "nothing is scraped", () -> x.slips(0, 12, 10, 0, true), 0);
    }

    // ---- promise 34

    private void goodDue(int m, int t, int k, long upper, long lower) {
        String call = "good of " + m + ", " + t + ", " + k;
        fraction(call, () -> newBow().good(m, t, k, true), upper, () -> newBow().good(m, t, k, false), lower);
    }

    @Says(promise = 34, value = "GOOD: of m staves (1 .. 12) each is good by t tenths")
    private void goodStavesAndTenths() {
        bounds(Edges::newBow, "m above", (x, m) -> x.good(m, 5, 1, true), 1, 1, 12, 4095, BAD);
        bounds(Edges::newBow, "m below", (x, m) -> x.good(m, 5, 1, false), 1, 2, 12, 4096, BAD);
        bounds(Edges::newBow, "m and none good", (x, m) -> x.good(m, 5, 0, true), 1, 1, 12, 1, BAD);
        bounds(Edges::newBow, "t above", (x, t) -> x.good(1, t, 1, true), 0, 0, 10, 1, BAD);
        bounds(Edges::newBow, "t below", (x, t) -> x.good(1, t, 1, false), 0, 1, 10, 1, BAD);
        goodDue(1, 1, 1, 1, 10);
        goodDue(1, 9, 1, 9, 10);
        goodDue(12, 0, 0, 1, 1);
        goodDue(12, 0, 1, 0, 1);
        goodDue(12, 10, 12, 1, 1);
        goodDue(12, 1, 12, 1, 1000000000000L);
        goodDue(12, 9, 12, 282429536481L, 1000000000000L);
    }

    @Says(promise = 34, value = "the chance that k (0 .. m) or more are")
    private void goodOrMore() {
        for (int m = 1; m <= 12; m++) {
            int staves = m;
            bounds(Edges::newBow, "k of " + m + " above", (x, k) -> x.good(staves, 5, k, true), 0, 1, m, 1, BAD);
            bounds(Edges::newBow, "k of " + m + " below", (x, k) -> x.good(staves, 5, k, false), 0, 1, m, 1L << m, BAD);
        }
        goodDue(3, 5, 1, 7, 8);
        goodDue(3, 5, 2, 1, 2);
        goodDue(3, 5, 3, 1, 8);
    }

    // ---- promise 35

    @Says(promise = 35, value = "They are kept: how many PLACES a LIMB has. UNKNOWN.")
    private void keepSlots() {
        bounds(Edges::newBow, "keep", BowBend::keep, 0, 1, 1, 1, UNKNOWN);
        for (int n = 1; n <= 6; n++) {
            String signs = alike(n, "5200");
            bounds(() -> Check.bowOf(signs), "keep of " + n, BowBend::keep, 0, n, 1, n, UNKNOWN);
        }
        BowBend x = newBow();
        x.keep(0);
        x.scrape(0, 1);
        refused(() -> x, "keep", BowBend::keep, UNKNOWN, -1, 2, 10);
        x.again(0);
        due("what was kept stays", x.about(0, 1), 20);
        due("nothing else is", x.again(1), LATE);
    }

    @Says(promise = 35, value = "SLOTS 0 .. 1 keep THE STAVE (SETS, KNOTS, whether it is broken; what is SEEN) and WOODS.")
    private void slotsAreApart() {
        BowBend x = newBow();
        due("keep", x.keep(0), 1);
        x.scrape(10, 9);
        due("keep", x.keep(1), 1);
        x.scrape(10, 7);
        due("the first", x.again(0), 1);
        due("depth", x.about(10, 1), 20);
        due("the second", x.again(1), 1);
        due("depth", x.about(10, 1), 11);
        x.scrape(10, 1);
        due("kept over what was kept", x.keep(0), 1);
        x.again(1);
        due("the second stays", x.about(10, 1), 11);
        x.again(0);
        due("the first is the last kept", x.about(10, 1), 10);
    }

    // ---- promise 36

    @Says(promise = 36, value = "UNKNOWN; LATE: none were kept.")
    private void againSlots() {
        refused(Edges::newBow, "none were kept", BowBend::again, LATE, 0, 1);
        refused(Edges::newBow, "UNKNOWN", BowBend::again, UNKNOWN, -1, 2, LOW, HIGH);
        for (int slot = 0; slot < 2; slot++) {
            int kept = slot;
            refused(() -> keptIn(kept), "the other", BowBend::again, LATE, 1 - kept);
            due("again", keptIn(kept).again(kept), 1);
            due("keep of " + kept + " once more", keptIn(kept).keep(1 - kept), 1);
        }
        bounds(() -> {
            BowBend x = keptIn(0);
            x.keep(1);
            return x;
        }, "again", BowBend::again, 0, 1, 1, 1, UNKNOWN);
    }

    private static BowBend keptIn(int slot) {
        BowBend x = newBow();
        x.keep(slot);
        x.scrape(0, 1);
        return x;
    }

    @Says(promise = 36, value = "They are as they were kept: how many PLACES a LIMB has.")
    private void againAsItWas() {
        for (boolean breaks : new boolean[] {false, true}) {
            BowBend x = drawnBow(breaks);
            String kept = Check.stateOf(x);
            due("keep", x.keep(1), 6);
            changeAll(x, breaks);
            due("again", x.again(1), 6);
            asItWas(x, kept);
            due("once more", x.again(1), 6);
            asItWas(x, kept);
            x.wipe();
            Check.put(x, alike(6, "9042"));
            due("made anew", x.stave(), 6);
            x.wipe();
            Check.put(x, even(6, "40"));
            due("again", x.again(1), 6);
            asItWas(x, kept);
        }
    }

    /** Each place has a SET, the last is broken or not. */
    private BowBend drawnBow(boolean breaks) {
        BowBend x = Check.bowOf(even(6, "40"));
        x.wood(0, 5, 99, 76);
        x.draw(40);
        due("sets", x.count(3), 12);
        x.knot(15, breaks);
        x.see(5, 99);
        x.draw(breaks ? 40 : 0);
        due("broken", x.broken(), breaks ? 15 : NONE);
        return x;
    }

    private void changeAll(BowBend x, boolean isBroken) {
        x.wood(0, 9, 1, 1);
        x.wood(2, 1, 2, 3);
        x.knot(0, true);
        x.see(5, 1);
        x.see(15, 2);
        if (!isBroken) {
            due("steamed", x.steam(0), 0);
            due("broken", x.draw(40) >= 100 ? 1 : 0, 1);
        }
        due("another form", x.shape(1, 99), 12);
    }

    private void asItWas(BowBend x, String kept) {
        due("as it was", kept.equals(Check.stateOf(x)) ? 1 : 0, 1);
    }

    @Says(promise = 36, value = "SLOTS 0 .. 1 keep THE STAVE")
    private void againOfOtherLengths() {
        BowBend x = newBow();
        x.keep(0);
        Check.put(x, alike(6, "9402"));
        x.stave();
        x.see(15, 9);
        x.keep(1);
        due("one place", x.again(0), 1);
        due("places", x.count(1), 1);
        due("no sixth", x.about(5, 0), UNKNOWN);
        due("width", x.about(10, 0), 5);
        due("depth", x.about(10, 1), 20);
        due("wood", x.about(10, 2), 0);
        due("nothing is seen", x.count(4), 0);
        due("six places", x.again(1), 6);
        due("the last", x.about(15, 5), 9);
        due("its width", x.about(15, 0), 9);
        due("its wood", x.about(15, 2), 2);
        due("the text is not kept", x.count(0), 49);
        x.wipe();
        x.again(0);
        due("nor made anew", x.count(0), 0);
    }

    // ---- promise 37

    @Says(promise = 37, value = "0 bytes of THE TEXT, 1 PLACES of a LIMB, 2 KNOTS, 3 SETS together, 4 all that is SEEN. BAD.")
    private void countWhat() {
        bounds(Edges::newBow, "count", BowBend::count, 0, 0, 4, 0, BAD);
        bounds(ChanceEdges::fullBow, "count of all", BowBend::count, 0, 60, 4, 1188, BAD);
        int[] least = {0, 1, 0, 0, 0};
        int[] most = {60, 6, 12, 912, 1188};
        for (int what = 0; what < 5; what++) {
            due("least count of " + what, newBow().count(what), least[what]);
            due("most count of " + what, fullBow().count(what), most[what]);
        }
    }

    private static BowBend fullBow() {
        BowBend x = Check.bowOf(even(6, "40"));
        Check.put(x, "0".repeat(11));
        x.wood(0, 5, 99, 1);
        x.draw(40);
        for (int i = 0; i < 12; i++) {
            x.knot(i / 6 * 10 + i % 6, true);
            x.see(i / 6 * 10 + i % 6, 99);
        }
        return x;
    }
}
