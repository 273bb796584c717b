/** The edges that the document names of promises 19 to 26: how it is, the next scrapes, the form. */
public final class FormEdges extends Edges {
    public static void main(String[] args) throws Exception {
        new FormEdges().run(19, 26);
    }

    /** Twelve places of like strain, but for these, which are so deep. */
    private static BowBend twelve(String depth, int... places) {
        StringBuilder signs = new StringBuilder(even(6, "30"));
        for (int place : places) {
            int at = place / 10 * 25 + place % 10 * 4 + 1;
            signs.replace(at, at + 2, depth);
        }
        return Check.bowOf(signs.toString());
    }

    /** Place 0 a scrape away from the other. */
    private static BowBend nearlyEven() {
        return Check.bowOf("5210/5200");
    }

    // ---- promise 19

    @Says(promise = 19, value = "HINGE. BAD.")
    private void hingeInches() {
        bounds(() -> Check.bowOf("5210/5200"), "hinge", BowBend::hinge, 0, 0, 40, 10, BAD);
    }

    @Says(promise = 19, value = "the PLACE with the greatest STRAIN; STIFF: with the least; of like ones the least told.")
    private void hingeOfLikeOnes() {
        ofLikeOnes(BowBend::hinge, "29", "31");
        BowBend x = newBow();
        x.draw(3);
        due("all 0, as it follows by 4", x.hinge(4), 0);
    }

    /** The place that lies farthest on one side, if places so far on that side, or on the other, are among the twelve. */
    private void ofLikeOnes(Call farthest, String far, String near) {
        due("all alike", farthest.on(twelve("30"), 20), 0);
        due("all 0", farthest.on(twelve(far, 15), 0), 0);
        due("the first", farthest.on(twelve(far, 0), 20), 0);
        due("the last", farthest.on(twelve(far, 15), 20), 15);
        due("the last two", farthest.on(twelve(far, 14, 15), 20), 14);
        due("the last of one limb, the first of the other", farthest.on(twelve(far, 5, 10), 20), 5);
        due("all but the first", farthest.on(twelve(near, 0), 20), 1);
        due("all but the first limb", farthest.on(twelve(near, 0, 1, 2, 3, 4, 5), 20), 10);
    }

    // ---- promise 20

    @Says(promise = 20, value = "STIFF. BAD.")
    private void stiffInches() {
        bounds(() -> Check.bowOf("5200/5210"), "stiff", BowBend::stiff, 0, 0, 40, 10, BAD);
    }

    @Says(promise = 20, value = "the PLACE with the greatest STRAIN; STIFF: with the least; of like ones the least told.")
    private void stiffOfLikeOnes() {
        ofLikeOnes(BowBend::stiff, "31", "29");
    }

    // ---- promise 21

    @Says(promise = 21, value = "EVEN. BAD.")
    private void evenInches() {
        bounds(FormEdges::nearlyEven, "even", BowBend::even, 0, 1000, 40, 907, BAD);
    }

    @Says(promise = 21, value = "1000 times the least STRAIN by the greatest (cut; 1000, if that is 0)")
    private void evenIsCut() {
        due("97331 by 107307", nearlyEven().even(5), 97331000 / 107307);
        due("all alike", twelve("30").even(40), 1000);
        due("the greatest is 0", nearlyEven().even(0), 1000);
        due("the least alone is 0", Check.farWoods("9400/1042", 9).even(1), 0);
        due("half", Check.bowOf("52005200/52005200").even(1), 500);
        BowBend x = newBow();
        x.scrape(0, 1);
        x.wood(0, 5, 99, 1);
        x.draw(3);
        due("it follows", x.follow() > 0 ? 1 : 0, 1);
        due("all 0", x.even(x.follow()), 1000);
        due("an inch beyond", x.even(x.follow() + 1) < 1000 ? 1 : 0, 1);
    }

    // ---- promise 22

    @Says(promise = 22, value = "THE NEXT SCRAPE; NONE. BAD: x, f.")
    private void nextBounds() {
        bounds(FormEdges::nearlyEven, "next at", (x, v) -> x.next(v, 0), 0, NONE, 40, 0, BAD);
        bounds(FormEdges::nearlyEven, "next with", (x, f) -> x.next(5, f), 0, 0, 999, 0, BAD);
    }

    @Says(promise = 22, value = "WEIGHT at x is f (0 .. 999) or more then")
    private void nextWeight() {
        due("800 then", nearlyEven().next(4, 800), 0);
        due("less than 801 then", nearlyEven().next(4, 801), NONE);
        due("858 now, 800 then", nearlyEven().next(4, 858), NONE);
        BowBend x = Check.bowOf("5220/5200");
        // 4319 and 5000: 8000000 by 9319 is 858 and a bit.
        due("858 and a bit then", x.next(4, 858), 0);
        due("not 859", x.next(4, 859), NONE);
    }

    @Says(promise = 22, value = "of all PLACES that can be SCRAPED by 1 so that WEIGHT at x is f (0 .. 999) or more then")
    private void nextOfDepth4() {
        due("5 deep can be", Check.bowOf("5050/5040").next(1, 0), 0);
        due("4 deep cannot be", Check.bowOf("9040/5040").next(1, 0), NONE);
        due("nor the last of all", Check.bowOf("5040/9040").next(1, 0), NONE);
        due("the last of all, 5 deep", Check.bowOf("5040/5050").next(1, 0), 10);
        due("none can be", Check.bowOf(alike(6, "5040")).next(40, 0), NONE);
        BowBend x = Check.bowOf("904090505040/904090405040");
        due("the stiff ones cannot be", x.stiff(1), 0);
        due("and no other makes it more even", x.next(1, 0), NONE);
    }

    @Says(promise = 22, value = "NONE: none makes it more EVEN than it is.")
    private void nextNoneMoreEven() {
        due("as even as can be", newBow().next(40, 0), NONE);
        due("all alike", twelve("30").next(40, 0), NONE);
        due("no strain", nearlyEven().next(0, 0), NONE);
        BowBend x = twelve("31", 3, 12);
        due("two like stiff ones: as even with one of them scraped", Check.evenScraped(x, 20, 3), x.even(20));
        due("that is not more", x.next(20, 0), NONE);
    }

    @Says(promise = 22, value = "the one by which EVEN at x is greatest then; of like ones the least told")
    private void nextOfLikeOnes() {
        BowBend x = Check.farWoods("43618352/43618352", 8);
        due("by the first", Check.evenScraped(x, 1, 0), 105);
        due("by the other limb's", Check.evenScraped(x, 1, 10), 105);
        due("now", x.even(1) < 105 ? 1 : 0, 1);
        due("the least told", x.next(1, 0), 0);
        due("the greatest, though told last", twelve("31", 15).next(20, 0), 15);
    }

    @Says(promise = 22, value = "(all that is asked of it is told as if it were not)")
    private void nextOfBrokenOne() {
        BowBend x = nearlyEven();
        x.draw(40);
        due("next", x.next(5, 999), 0);
        due("best", x.best(5, 999, 1), 1000);
        due("bestAt", x.bestAt(5, 999, 1, 0), 0);
        due("even", x.even(5), 907);
        due("form", x.form(0, 40, 1), 40);
    }

    // ---- promise 23

    @Says(promise = 23, value = "EVEN by THE BEST; NONE. BAD: x, f, n.")
    private void bestInchesAndWeight() {
        bounds(FormEdges::nearlyEven, "best at", (x, v) -> x.best(v, 0, 1), 0, 1000, 40, 1000, BAD);
        bounds(FormEdges::nearlyEven, "best with", (x, f) -> x.best(5, f, 1), 0, 1000, 999, 1000, BAD);
    }

    @Says(promise = 23, value = "THE BEST for x, f and n (1 .. 3): of all ways to SCRAPE by 1 n times or fewer (0 too;")
    private void bestScrapes() {
        bounds(() -> Check.bowOf("5230/5200"), "best of", (x, n) -> x.best(5, 0, n), 1, bestOf("5220/5200"), 3, 1000, BAD);
        due("of 2", Check.bowOf("5230/5200").best(5, 0, 2), 907);
        due("four are too many", Check.bowOf("5240/5200").best(5, 0, 3), 907);
        due("none at all", newBow().best(5, 0, 3), 1000);
    }

    private static int bestOf(String signs) {
        return Check.bowOf(signs).even(5);
    }

    @Says(promise = 23, value = "the same PLACE more often, too)")
    private void bestOfSamePlace() {
        due("three times the same", Check.bowOf("5230/5200").best(5, 0, 3), 1000);
        due("from 7 to 4", Check.bowOf("5040/5070").best(5, 0, 3), 1000);
        due("from 6 to 4", Check.bowOf("9060/1040").best(1, 0, 3), 111);
        due("from 6 to 5", Check.bowOf("9060/1040").best(1, 0, 1), Check.bowOf("9050/1040").even(1));
        due("4 deep none can be scraped", Check.bowOf("9040/1040").best(1, 0, 3), 111);
    }

    @Says(promise = 23, value = "with WEIGHT at x f or more behind all")
    private void bestWeight() {
        BowBend x = Check.bowOf("5220/5200");
        int now = x.even(4);
        due("two scrapes weigh 800", x.best(4, 800, 3), 1000);
        due("not 801: one scrape", x.best(4, 801, 3), 907);
        due("one weighs 858 and a bit", x.best(4, 858, 3), 907);
        due("not 859: none", x.best(4, 859, 3), now);
        due("it weighs 913 and a bit", x.best(4, 913, 3), now);
    }

    @Says(promise = 23, value = "NONE: there is no such way.")
    private void bestNoWay() {
        due("it weighs less than 914", Check.bowOf("5220/5200").best(4, 914, 3), NONE);
        due("it weighs 800", newBow().best(4, 800, 3), 1000);
        due("not 801", newBow().best(4, 801, 3), NONE);
        due("nothing is 0 or more", newBow().best(0, 0, 1), 1000);
        due("nothing is less than 1", newBow().best(0, 1, 1), NONE);
        due("bestAt of no way", newBow().bestAt(4, 801, 3, 0), NONE);
        BowBend x = nearlyEven();
        due("there is one", x.bestAt(4, 800, 3, 0), 0);
        due("there is none", x.bestAt(4, 859, 3, 0), NONE);
        due("best of none", x.best(4, 859, 3), NONE);
    }

    // ---- promise 24

    @Says(promise = 24, value = "The i-th SCRAPE of THE BEST (from 0; PLACES the least told first); NONE: there is none such.")
    private void scrapesOfTheBest() {
        int[] threes = {10, 10, 10, NONE};
        int[] mixed = {0, 10, 10, NONE};
        for (int i = 0; i < 4; i++) {
            due("the same place, " + i, Check.bowOf("5200/5230").bestAt(5, 0, 3, i), threes[i]);
            due("two places, " + i, mixedBow().bestAt(4, 0, 3, i), mixed[i]);
            due("none, " + i, newBow().bestAt(5, 0, 3, i), NONE);
            due("one, " + i, Check.bowOf("5200/5210").bestAt(5, 0, 3, i), i == 0 ? 10 : NONE);
        }
        for (int i : new int[] {LOW, LOW + 1, -1, 4, 5, HIGH - 1, HIGH}) {
            due("none such, " + i, mixedBow().bestAt(4, 0, 3, i), NONE);
        }
    }

    /** Even when place 0 is scraped once and place 10 twice. */
    private static BowBend mixedBow() {
        BowBend x = Check.bowOf("52105201/52205201");
        x.wood(0, 4, 60, 40);
        x.wood(1, 8, 60, 40);
        return x;
    }

    @Says(promise = 24, value = "NONE: there is none such. BAD.")
    private void bestAtRefusals() {
        bounds(FormEdges::nearlyEven, "at", (x, v) -> x.bestAt(v, 0, 1, 0), 0, NONE, 40, 0, BAD);
        bounds(FormEdges::nearlyEven, "with", (x, f) -> x.bestAt(5, f, 1, 0), 0, 0, 999, 0, BAD);
        bounds(FormEdges::nearlyEven, "of", (x, n) -> x.bestAt(5, 0, n, 0), 1, 0, 3, 0, BAD);
        refused(FormEdges::nearlyEven, "BAD, not NONE", (x, n) -> x.bestAt(5, 0, n, 3), BAD, 0, 4, LOW, HIGH);
        refused(FormEdges::nearlyEven, "BAD, not NONE", (x, v) -> x.bestAt(v, 999, 1, -1), BAD, -1, 41, LOW, HIGH);
    }

    @Says(promise = 24, value = "of like ones the fewest SCRAPES")
    private void fewestScrapes() {
        BowBend x = Check.bowOf("5200/5210");
        due("one", Check.evenScraped(x, 5, 10), 1000);
        due("three as well", Check.evenScraped(x, 5, 0, 10, 10), 1000);
        due("one is less", x.bestAt(5, 0, 3, 1), NONE);
        BowBend y = Check.farWoods("304141121041/304141121041", 9);
        due("none", y.even(1), 110);
        due("one brings nothing", y.best(1, 0, 1), 110);
        due("none is less", y.bestAt(1, 0, 1, 0), NONE);
    }

    @Says(promise = 24, value = "of these that whose PLACES, the least told first, are least (the first, then the second, then the third)")
    private void leastPlaces() {
        BowBend x = Check.farWoods("304141121041/304141121041", 9);
        due("1 and 1", Check.evenScraped(x, 1, 1, 1), 111);
        due("11 and 11", Check.evenScraped(x, 1, 11, 11), 111);
        due("the first is least", x.bestAt(1, 0, 2, 0), 1);
        BowBend y = Check.farWoods("328111209042/328111209042", 3);
        due("0 and 10", Check.evenScraped(y, 2, 0, 10), 2);
        due("1 and 1", Check.evenScraped(y, 2, 1, 1), 2);
        due("the first before the second", y.bestAt(2, 0, 2, 0), 0);
        due("though it is greater", y.bestAt(2, 0, 2, 1), 10);
        BowBend z = Check.farWoods("53217352/80916092", 3);
        due("0, 0 and 0", Check.evenScraped(z, 3, 0, 0, 0), 6);
        due("0, 0 and 10", Check.evenScraped(z, 3, 0, 0, 10), 6);
        due("two bring less", z.best(3, 0, 2), 5);
        due("three", z.best(3, 0, 3), 6);
        due("the third is least", z.bestAt(3, 0, 3, 2), 0);
    }

    // ---- promise 25

    @Says(promise = 25, value = "THE FORM for a WEIGHT f (1 .. 999) and a line s (1 .. 99)")
    private void formBounds() {
        bounds(Edges::newBow, "form for", (x, f) -> x.form(0, f, 99), 1, 4, 999, 21, BAD);
        bounds(Edges::newBow, "form by", (x, s) -> x.form(0, 40, s), 1, 40, 99, 5, BAD);
        places("form", (x, v) -> x.form(v, 1, 99));
        refused(Edges::newBow, "UNKNOWN before BAD", (x, v) -> x.form(v, 0, 1), UNKNOWN, -1, 1, 9, 11, LOW, HIGH);
        refused(Edges::newBow, "UNKNOWN before BAD", (x, v) -> x.form(v, 1, 100), UNKNOWN, -1, 1, 9, 11, LOW, HIGH);
    }

    @Says(promise = 25, value = "of each PLACE the least depth (4 .. 40) by which f times ARM times 1000 is no more than s times e, width, depth, depth")
    private void formOfLeastAndMost() {
        due("2000 is no more than 5 times 25 and 16", newBow().form(0, 2, 5), 4);
        due("but more than 4 times", newBow().form(0, 2, 4), 5);
        due("1 deep would do", newBow().form(0, 1, 99), 4);
        due("39 deep bears 38025", newBow().form(0, 38, 1), 39);
        due("but not 39000", newBow().form(0, 39, 1), 40);
        due("40000 is no more than 25 and 1600", newBow().form(10, 40, 1), 40);
        due("39 times 25 and 1024 is 600 too few", newBow().form(0, 999, 39), 33);
        due("arm 6", Check.bowOf(alike(6, "5200")).form(15, 40, 6), 40);
    }

    @Says(promise = 25, value = "NONE: 40 is not enough.")
    private void formNone() {
        due("41000 is more than 25 and 1600", newBow().form(0, 41, 1), NONE);
        due("the greatest and the least line", newBow().form(10, 999, 1), NONE);
        due("arm 6", Check.bowOf(alike(6, "5200")).form(15, 40, 5), NONE);
        due("arm 5", Check.bowOf(alike(6, "5200")).form(14, 40, 5), 40);
        due("arm 6, a pound more", Check.bowOf(alike(6, "5200")).form(5, 41, 6), NONE);
    }

    // ---- promise 26

    @Says(promise = 26, value = "BAD; LATE: some PLACE has none.")
    private void shapeBounds() {
        bounds(Edges::newBow, "shape for", (x, f) -> x.shape(f, 99), 1, 2, 999, 2, BAD);
        bounds(Edges::newBow, "shape by", (x, s) -> x.shape(40, s), 1, 2, 99, 2, BAD);
        refused(Edges::newBow, "BAD before LATE", (x, f) -> x.shape(f, 1), BAD, 1000, HIGH);
        refused(Edges::newBow, "BAD before LATE", (x, s) -> x.shape(999, s), BAD, 0, LOW);
    }

    @Says(promise = 26, value = "LATE: some PLACE has none.")
    private void shapeLate() {
        due("all have one", newBow().shape(40, 1), 2);
        refused(Edges::newBow, "none has one", (x, f) -> x.shape(f, 1), LATE, 41, 999);
        due("all twelve have one", Check.bowOf(alike(6, "5200")).shape(40, 6), 12);
        refused(() -> Check.bowOf(alike(6, "5200")), "the last of each limb has none", (x, s) -> x.shape(40, s), LATE, 5);
        refused(() -> Check.bowOf("1200/9200"), "the first has none", (x, s) -> x.shape(100, s), LATE, 5);
        refused(() -> Check.bowOf("9200/1200"), "the last has none", (x, s) -> x.shape(100, s), LATE, 5);
        BowBend x = brokenBow();
        still(x, "of a broken one too", () -> x.shape(41, 1), LATE);
    }

    @Says(promise = 26, value = "THE STAVE gets THE FORM: how many PLACES are of another depth than they were")
    private void shapeTells() {
        BowBend x = Check.bowOf(alike(6, "5200"));
        x.shape(40, 6);
        int[] form = {17, 24, 29, 33, 37, 40};
        for (int i = 0; i < 12; i++) {
            due("depth", x.about(i / 6 * 10 + i % 6, 1), form[i % 6]);
        }
        due("once more", x.shape(40, 6), 0);
        x.scrape(15, 1);
        due("one of twelve", x.shape(40, 6), 1);
        due("it is deep again", x.about(15, 1), 40);
        due("from 40 to 4", Check.bowOf("5400/5040").shape(2, 5), 1);
        due("from 4 to 40", Check.bowOf("5400/5040").shape(40, 1), 1);
    }

    @Says(promise = 26, value = "(a broken one stays broken, SETS stay)")
    private void shapeKeepsTheRest() {
        BowBend x = newBow();
        x.draw(3);
        x.knot(0, true);
        x.see(10, 9);
        x.draw(8);
        due("broken", x.broken(), 0);
        due("shape", x.shape(40, 1), 2);
        int[] first = {5, 40, 0, 20, 1, 0};
        int[] second = {5, 40, 0, 20, 0, 9};
        for (int what = 0; what < 6; what++) {
            due("about 0, " + what, x.about(0, what), first[what]);
            due("about 10, " + what, x.about(10, what), second[what]);
        }
        due("broken", x.broken(), 0);
    }
}
