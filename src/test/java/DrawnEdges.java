/** The edges that the document names of promises 10 to 18: what gives, weighs and bears, drawn, scraped, steamed. */
public final class DrawnEdges extends Edges {
    public static void main(String[] args) throws Exception {
        new DrawnEdges().run(10, 18);
    }

    private static BowBend bowOfE(int e, String signs) {
        BowBend x = Check.bowOf(signs);
        x.wood(0, e, 99, 99);
        return x;
    }

    /** Wood 0 with other lines, its e as it was. */
    private static BowBend lines(BowBend x, int pull, int press) {
        x.wood(0, x.grown(0, 0), pull, press);
        return x;
    }

    /** Two like places of the strain 10000 for each inch, both of 98 SET: it follows the string by 19 inches. */
    private static BowBend bowOf98() {
        BowBend x = lines(Check.bowOf("5100/5100"), 99, 1);
        x.draw(9);
        x.draw(18);
        return x;
    }

    /** Place 0 has the strain 23001 at 2 inches, place 10 less. */
    private static BowBend bowOf23001() {
        return Check.bowOf("1110/2090");
    }

    // ---- promise 10

    @Says(promise = 10, value = "GIVE of a PLACE. UNKNOWN.")
    private void givePlaces() {
        places("give", BowBend::give);
    }

    @Says(promise = 10, value = "1000000000 times ARM times ARM by e, width, and depth three times multiplied (cut)")
    private void giveIsCut() {
        due("1481 and 13 of 27", Check.bowOf("5300/5200").give(0), 1481);
        due("5000 and nothing", newBow().give(0), 5000);
        due("the least, 192 and 29 of 32", bowOfE(9, alike(6, "9400")).give(0), 192);
        due("the most", bowOfE(1, alike(6, "1040")).give(15), 562500000);
        for (int arm = 1; arm <= 6; arm++) {
            due("arm " + arm, Check.bowOf(alike(6, "5200")).give(arm - 1), 5000L * arm * arm);
            due("arm " + arm, Check.bowOf(alike(6, "5200")).give(arm + 9), 5000L * arm * arm);
        }
    }

    @Says(promise = 10, value = "(all that is asked of it is told as if it were not)")
    private void giveOfBrokenOne() {
        due("give", brokenBow().give(0), 5000);
    }

    // ---- promise 11

    @Says(promise = 11, value = "What a LIMB GIVES. UNKNOWN.")
    private void limbs() {
        bounds(() -> Check.bowOf("53005200/52005100"), "limb", BowBend::limb, 0, 21481, 1, 165000, UNKNOWN);
        refused(() -> Check.bowOf(alike(6, "5200")), "limb", BowBend::limb, UNKNOWN, 10, 15, 5, -10);
    }

    @Says(promise = 11, value = "A LIMB GIVES what its PLACES do together.")
    private void limbTogether() {
        due("each cut by itself", Check.bowOf(alike(2, "5300")).limb(0), 1481 + 5925);
        due("the most", bowOfE(1, alike(6, "1040")).limb(1), 15625000L * 91);
        due("the least", bowOfE(9, "9400/9400").limb(1), 192);
    }

    // ---- promise 12

    @Says(promise = 12, value = "FOLLOW: SETS of all PLACES together by 10 (cut).")
    private void followIsCut() {
        BowBend x = Check.bowOf("5100/5101");
        due("of no sets", x.follow(), 0);
        followDue(x, 1, 5, 6, 9, 0);
        followDue(x, 1, 9, 10, 10, 1);
        followDue(x, 2, 1, 10, 19, 1);
        followDue(x, 2, 9, 10, 20, 2);
    }

    /** Each inch beyond what it follows is a strain of 10000. */
    private void followDue(BowBend x, int inches, int press, int otherPress, int sets, int follow) {
        x.wood(0, 5, 99, press);
        x.wood(1, 5, 99, otherPress);
        x.draw(inches);
        due("sets", x.count(3), sets);
        due("follow of " + sets, x.follow(), follow);
    }

    /** All twelve places get 76 SET. */
    private static BowBend bowThatFollowsFar() {
        BowBend x = lines(Check.bowOf(even(6, "40")), 99, 1);
        x.draw(40);
        return x;
    }

    @Says(promise = 12, value = "FOLLOW: SETS of all PLACES together by 10 (cut).")
    private void followBeyondAllInches() {
        BowBend x = bowThatFollowsFar();
        due("sets", x.count(3), 912);
        due("follow", x.follow(), 91);
        due("nothing more is drawn", x.draw(40), 0);
        due("follow", x.follow(), 91);
    }

    // ---- promise 13

    @Says(promise = 13, value = "WEIGHT at x inches (0 .. 40)")
    private void weightInches() {
        bounds(Edges::newBow, "weight above", (x, v) -> x.weight(v, true), 0, 0, 40, 8000, BAD);
        bounds(Edges::newBow, "weight below", (x, v) -> x.weight(v, false), 0, 1, 40, 1, BAD);
    }

    @Says(promise = 13, value = "2000000 times (x less FOLLOW, 0 at least), by what both LIMBS GIVE, a FRACTION.")
    private void weightOfWhatFollows() {
        BowBend x = newBow();
        x.draw(3);
        due("follow", x.follow(), 4);
        int[] weights = {0, 0, 0, 0, 0, 200, 400};
        for (int inches = 0; inches < weights.length; inches++) {
            int at = inches;
            fraction("weight at " + at, () -> x.weight(at, true), weights[at], () -> x.weight(at, false), 1);
        }
        BowBend y = bowThatFollowsFar();
        fraction("weight of nothing", () -> y.weight(40, true), 0, () -> y.weight(40, false), 1);
        due("strain of nothing", y.strain(15, 40), 0);
    }

    @Says(promise = 13, value = "FRACTIONS are told above (upper = true), below, in least terms")
    private void weightInLeastTerms() {
        BowBend x = bowOfE(1, alike(6, "1040"));
        fraction("the least", () -> x.weight(1, true), 8, () -> x.weight(1, false), 11375);
        BowBend y = bowOfE(9, "9400/9400");
        fraction("the most", () -> y.weight(40, true), 625000, () -> y.weight(40, false), 3);
        BowBend z = Check.bowOf("5210/5200");
        fraction("4319 and 5000", () -> z.weight(3, true), 6000000, () -> z.weight(3, false), 9319);
    }

    // ---- promise 14

    @Says(promise = 14, value = "STRAIN. UNKNOWN; BAD.")
    private void strainPlacesAndInches() {
        places("strain", (x, v) -> x.strain(v, 40));
        bounds(Edges::newBow, "strain", (x, v) -> x.strain(10, v), 0, 0, 40, 800000, BAD);
        refused(Edges::newBow, "strain at 41", (x, v) -> x.strain(v, 41), UNKNOWN, -1, 1, 9, 11, LOW, HIGH);
        refused(Edges::newBow, "strain at -1", (x, v) -> x.strain(v, -1), UNKNOWN, -1, 1, 9, 11, LOW, HIGH);
    }

    @Says(promise = 14, value = "by e, width, depth, depth, all multiplied (cut once)")
    private void strainIsCutOnce() {
        BowBend x = Check.bowOf("5210/5200");
        due("10000000 by 9319 is 1073 and a bit", x.strain(0, 5), 10000000L * 1000000 / (9319L * 11025));
        due("not of 1073", x.strain(0, 5) == 1073000000L / 11025 ? 1 : 0, 0);
        due("20 deep", x.strain(10, 5), 10000000L * 1000000 / (9319L * 10000));
    }

    @Says(promise = 14, value = "WEIGHT times ARM times 1000000 (1000, and 1000 for the THOUSANDTHS)")
    private void leastAndGreatestStrain() {
        BowBend x = Check.bowOf("1402/9400");
        x.wood(0, 9, 99, 99);
        x.wood(2, 1, 99, 99);
        due("a great one", x.strain(0, 40), 80000000L * 1000000 / ((15625L + 192) * 1600));
        BowBend y = Check.bowOf("9400/1042");
        y.wood(0, 9, 99, 99);
        y.wood(2, 1, 99, 99);
        due("a small one", y.strain(0, 1), 2000000L * 1000000 / ((192L + 15625000) * 129600));
        due("and that is 0", y.strain(0, 1), 0);
        BowBend z = Check.bowOf(alike(6, "5200"));
        for (int arm = 1; arm <= 6; arm++) {
            due("arm " + arm, z.strain(arm + 9, 40), 80000000L * arm * 1000000 / (910000L * 10000));
        }
    }

    // ---- promise 15

    @Says(promise = 15, value = "BAD: x; LATE: it is broken.")
    private void drawInches() {
        bounds(Edges::newBow, "draw", BowBend::draw, 0, 0, 40, 100, BAD);
        refused(Edges::brokenBow, "draw of a broken one", BowBend::draw, LATE, 0, 1, 3, 40);
        refused(Edges::brokenBow, "BAD first", BowBend::draw, BAD, -1, 41, LOW, HIGH);
    }

    @Says(promise = 15, value = "if there are PLACES whose STRAIN is more than 1000 times the PULL line, it BREAKS")
    private void pullLine() {
        due("60000 is not more than 60", lines(newBow(), 60, 99).draw(3), 0);
        due("60000 is more than 59", lines(newBow(), 59, 99).draw(3), 100);
        due("strain", bowOf23001().strain(0, 2), 23001);
        due("a thousandth more than 23", lines(bowOf23001(), 23, 99).draw(2), 100);
        due("less than 24", lines(bowOf23001(), 24, 99).draw(2), 0);
        due("the least line", lines(newBow(), 1, 1).draw(1), 100);
        due("nothing is not more", lines(newBow(), 1, 1).draw(0), 0);
        BowBend x = lines(Check.bowOf("5100/5100"), 99, 99);
        due("90000 is less than 99", x.draw(9), 0);
        due("100000 is more", x.draw(10), 100);
    }

    @Says(promise = 15, value = "At a KNOT (none at first) the PULL line is half as much (cut).")
    private void pullLineAtKnot() {
        int[] lines = {38, 39, 40, 41, 42};
        int[] answers = {100, 100, 0, 0, 0};
        for (int i = 0; i < lines.length; i++) {
            BowBend x = lines(newBow(), lines[i], 99);
            x.knot(0, true);
            due("20000 at a knot and " + lines[i], x.draw(1), answers[i]);
        }
        BowBend y = lines(newBow(), 1, 99);
        y.knot(10, true);
        due("half of 1 is 0: nothing is not more", y.draw(0), 0);
        due("but a bit is: 20 above 0, not above 1", y.draw(1), 110);
        BowBend z = lines(newBow(), 39, 99);
        z.knot(0, true);
        z.knot(0, false);
        due("where no knot is any more", z.draw(1), 0);
        BowBend u = lines(newBow(), 99, 20);
        u.knot(0, true);
        due("the press line is not half as much", u.draw(1), 0);
    }

    @Says(promise = 15, value = "at the one that is most above it (of like ones the least told)")
    private void whereItBreaks() {
        due("all twelve alike", knotted().draw(40), 100);
        due("two of them at knots", knotted(3, 12).draw(40), 103);
        due("one of them", knotted(10).draw(40), 110);
        due("the last of all", knotted(15).draw(40), 115);
        BowBend x = Check.bowOf("5200/5101");
        x.wood(0, 5, 1, 99);
        x.wood(1, 5, 60, 99);
        due("strain 17777", x.strain(0, 4), 17777);
        due("strain 71111", x.strain(10, 4), 71111);
        due("16777 above, not 11111", x.draw(4), 100);
        BowBend y = Check.bowOf("5200/5101");
        y.wood(0, 5, 1, 99);
        y.wood(1, 5, 54, 99);
        due("17111 above, not 16777", y.draw(4), 110);
    }

    /** Twelve places of the strain 76190 at 40 inches, above the line by 190 and at a knot by 38190. */
    private static BowBend knotted(int... places) {
        BowBend x = lines(Check.bowOf(even(6, "40")), 76, 99);
        for (int place : places) {
            x.knot(place, true);
        }
        return x;
    }

    @Says(promise = 15, value = "else each PLACE whose STRAIN is more than 1000 times the PRESS line gets so much more SET")
    private void pressLine() {
        due("60000 is not more than 60", lines(newBow(), 99, 60).draw(3), 0);
        due("60000 is more than 59", lines(newBow(), 99, 59).draw(3), 2);
        due("a thousandth more than 23", lines(bowOf23001(), 99, 23).draw(2), 1);
        due("less than 24", lines(bowOf23001(), 99, 24).draw(2), 0);
        due("all twelve", lines(Check.bowOf(even(6, "40")), 99, 76).draw(40), 12);
        due("none", lines(Check.bowOf(even(6, "40")), 99, 77).draw(40), 0);
        BowBend x = lines(newBow(), 59, 1);
        due("broken it gets none", x.draw(3), 100);
        due("sets", x.count(3), 0);
    }

    @Says(promise = 15, value = "as many thousands as it is above (a bit counts as one)")
    private void thousandsAbove() {
        BowBend x = lines(newBow(), 99, 59);
        x.draw(3);
        due("1000 above", x.about(0, 3), 1);
        BowBend y = lines(bowOf23001(), 99, 22);
        y.draw(2);
        due("1001 above", y.about(0, 3), 2);
        BowBend z = lines(bowOf23001(), 99, 23);
        z.draw(2);
        due("1 above", z.about(0, 3), 1);
        due("the other place is not above", z.about(10, 3), 0);
        BowBend u = lines(newBow(), 99, 58);
        u.draw(3);
        due("2000 above", u.about(10, 3), 2);
    }

    @Says(promise = 15, value = "gets so much more SET, as many thousands as it is above (a bit counts as one), up to 99.")
    private void setUpTo99() {
        BowBend x = bowOf98();
        due("98", x.about(0, 3), 98);
        lines(x, 99, 10).draw(20);
        due("98 and 0", x.about(0, 3), 98);
        lines(x, 99, 9).draw(20);
        due("98 and 1", x.about(0, 3), 99);
        due("of the other too", x.about(10, 3), 99);
        lines(x, 99, 1).draw(20);
        due("99 and 9", x.about(0, 3), 99);
        due("together", x.count(3), 198);
        BowBend y = bowOf98();
        lines(y, 99, 8).draw(20);
        due("98 and 2", y.about(10, 3), 99);
    }

    @Says(promise = 15, value = "It is DRAWN: how many PLACES got SET; 100 and the PLACE at which it BREAKS.")
    private void drawnBySlackString() {
        BowBend x = bowOf98();
        due("not beyond what it follows", lines(x, 1, 1).draw(19), 0);
        due("an inch beyond", x.draw(20), 100);
        due("all strains are of before", lines(Check.bowOf(even(6, "40")), 99, 1).draw(40), 12);
        due("and all sets alike", bowThatFollowsFar().about(15, 3), 76);
    }

    // ---- promise 16

    @Says(promise = 16, value = "Where it is broken; NONE.")
    private void whereItIsBroken() {
        due("a new one", newBow().broken(), NONE);
        BowBend whole = lines(newBow(), 60, 99);
        whole.draw(3);
        due("on the line", whole.broken(), NONE);
        for (int place : new int[] {0, 5, 10, 15}) {
            BowBend x = knotted(place);
            x.draw(40);
            due("broken", x.broken(), place);
        }
    }

    @Says(promise = 16, value = "A broken one is broken till THE STAVE is made anew")
    private void staysBroken() {
        BowBend x = knotted(15);
        x.draw(40);
        x.knot(15, false);
        x.wood(0, 5, 99, 99);
        x.see(15, 9);
        x.shape(1, 99);
        x.draw(0);
        x.keep(0);
        due("broken", x.broken(), 15);
        Check.put(x, "5200");
        due("no stave", x.stave(), LATE);
        due("broken", x.broken(), 15);
        x.wipe();
        Check.put(x, "5200/5200");
        x.stave();
        due("made anew", x.broken(), NONE);
        due("drawn", x.draw(1), 0);
    }

    // ---- promise 17

    @Says(promise = 17, value = "SCRAPED by s (1 .. 9) a PLACE is less deep by that")
    private void scrapeBounds() {
        bounds(Edges::newBow, "scrape", (x, s) -> x.scrape(10, s), 1, 19, 9, 11, BAD);
        places("scrape", (x, v) -> x.scrape(v, 1));
        BowBend x = newBow();
        x.scrape(10, 9);
        due("the other is as it was", x.about(0, 1), 20);
    }

    @Says(promise = 17, value = "a PLACE is less deep by that (4 at least)")
    private void scrapedTo4() {
        for (int s = 1; s <= 9; s++) {
            due("to 4", bowOfDepth(4 + s).scrape(0, s), 4);
            int depth = 3 + s;
            refused(() -> bowOfDepth(depth), "to 3", (x, v) -> x.scrape(0, v), LATE, s);
        }
        refused(() -> bowOfDepth(4), "of 4 deep", (x, s) -> x.scrape(0, s), LATE, 1, 9);
        due("from 40", bowOfDepth(40).scrape(0, 1), 39);
    }

    private static BowBend bowOfDepth(int depth) {
        return Check.bowOf("5" + depth / 10 + depth % 10 + "0/5200");
    }

    @Says(promise = 17, value = "UNKNOWN; BAD: s; LATE: it is broken, or would be less than 4 deep.")
    private void scrapeRefusals() {
        refused(Edges::brokenBow, "broken", (x, s) -> x.scrape(10, s), LATE, 1, 9);
        refused(Edges::brokenBow, "BAD before broken", (x, s) -> x.scrape(0, s), BAD, 0, 10, LOW, HIGH);
        refused(() -> bowOfDepth(4), "BAD before less than 4", (x, s) -> x.scrape(0, s), BAD, 0, 10, LOW, HIGH);
        refused(Edges::brokenBow, "UNKNOWN before BAD", (x, v) -> x.scrape(v, 0), UNKNOWN, -1, 1, 9, 11, LOW, HIGH);
        refused(Edges::brokenBow, "UNKNOWN before LATE", (x, v) -> x.scrape(v, 1), UNKNOWN, -1, 1, 9, 11, LOW, HIGH);
    }

    // ---- promise 18

    @Says(promise = 18, value = "STEAMED, it has half its SET (cut).")
    private void steamIsCut() {
        BowBend x = bowOf98();
        lines(x, 99, 9).draw(20);
        int[] sets = {49, 24, 12, 6, 3, 1, 0, 0};
        for (int set : sets) {
            due("steam", x.steam(10), set);
            due("about", x.about(10, 3), set);
        }
        due("the other", x.about(0, 3), 99);
        due("half of 98", bowOf98().steam(0), 49);
        due("a new one", newBow().steam(0), 0);
    }

    @Says(promise = 18, value = "UNKNOWN; LATE: it is broken.")
    private void steamRefusals() {
        places("steam", BowBend::steam);
        refused(DrawnEdges::brokenWithSets, "broken", BowBend::steam, LATE, 0, 10);
        refused(DrawnEdges::brokenWithSets, "UNKNOWN before LATE", BowBend::steam, UNKNOWN, -1, 1, 9, 11, LOW, HIGH);
    }

    private static BowBend brokenWithSets() {
        BowBend x = bowOf98();
        lines(x, 1, 1).draw(20);
        return x;
    }
}
