import java.util.function.LongSupplier;

/** What each promise says, worked out by hand: ordinary inputs, the edges it names, each refusal. */
public final class PromiseTests {
    private static final int UNKNOWN = -1, BAD = -2, LATE = -3, FULL = -4, NONE = -9;
    private static final int LOW = Integer.MIN_VALUE, HIGH = Integer.MAX_VALUE;
    // Two places a limb, no two of them alike. They give 5000, 190476 / 48225, 1388.
    private static final String UNLIKE = "52003101/41229400";

    private final Check check = new Check();

    public static void main(String[] args) {
        PromiseTests t = new PromiseTests();
        t.textPromises();
        t.woodPromises();
        t.drawnPromises();
        t.howItIsPromises();
        t.whatComesPromises();
        t.keptPromises();
        t.check.close("PromiseTests");
    }

    private void textPromises() {
        newObject();
        write();
        wipe();
        fault();
        stave();
    }

    private void woodPromises() {
        wood();
        grown();
        knot();
        about();
    }

    private void drawnPromises() {
        give();
        limb();
        follow();
        weight();
        strain();
        drawTakesSets();
        drawBreaks();
        drawLines();
        broken();
        scrape();
        steam();
    }

    private void howItIsPromises() {
        hingeAndStiff();
        even();
        next();
        best();
        bestOfLikeOnes();
        bestAt();
        form();
        shape();
    }

    private void whatComesPromises() {
        pace();
        wet();
        lost();
        see();
        off();
        tooStiff();
    }

    private void keptPromises() {
        slips();
        good();
        keepAndAgain();
        count();
    }

    private void due(String call, long got, long want) {
        check.due(call, got, want);
    }

    private void still(BowBend x, String call, LongSupplier ask, long want) {
        check.still(x, call, ask, want);
    }

    /** A new bow of two like places has a strain of 20 (20000 as told) for each inch. */
    private static BowBend newBow() {
        return new BowBend();
    }

    private void newObject() {
        check.about("promise 1");
        BowBend x = newBow();
        due("count(0)", x.count(0), 0);
        due("count(1)", x.count(1), 1);
        due("count(2)", x.count(2), 0);
        due("count(3)", x.count(3), 0);
        due("count(4)", x.count(4), 0);
        int[] place = {5, 20, 0, 0, 0, 0};
        for (int what = 0; what < 6; what++) {
            due("about(0, " + what + ")", x.about(0, what), place[what]);
            due("about(10, " + what + ")", x.about(10, what), place[what]);
        }
        int[] woods = {5, 60, 40, 7, 80, 50, 3, 40, 20};
        for (int i = 0; i < 9; i++) {
            due("grown " + i, x.grown(i / 3, i % 3), woods[i]);
        }
        due("broken", x.broken(), NONE);
        due("fault", x.fault(), 0);
        due("again(0)", x.again(0), LATE);
        due("again(1)", x.again(1), LATE);
        due("constants", BowBend.UNKNOWN == -1 && BowBend.BAD == -2 && BowBend.LATE == -3 ? 1 : 0, 1);
        due("constants", BowBend.FULL == -4 && BowBend.NONE == -9 ? 1 : 0, 1);
    }

    private void write() {
        check.about("promise 2");
        BowBend x = newBow();
        still(x, "write(0)", () -> x.write(0, 0x35), BAD);
        still(x, "write(9)", () -> x.write(9, 0x35), BAD);
        still(x, "write(least)", () -> x.write(LOW, 0x35), BAD);
        still(x, "write(most)", () -> x.write(HIGH, 0x35), BAD);
        due("the lowest 4, the highest first", x.write(4, 0x7777777735323030L), 4);
        due("one", x.write(1, 0x2f), 5);
        due("fault", x.fault(), 5);
        due("more", x.write(4, 0x35323030L), 9);
        due("fault", x.fault(), NONE);
        due("eight", x.write(8, -1L), 17);
        due("fault", x.fault(), 9);
        for (int length = 25; length <= 57; length += 8) {
            due("eight", x.write(8, 0), length);
        }
        still(x, "one too many", () -> x.write(4, 0), FULL);
        still(x, "BAD before FULL", () -> x.write(9, 0), BAD);
        due("full to the last", x.write(3, 0), 60);
        still(x, "no room", () -> x.write(1, 0), FULL);
        still(x, "BAD before FULL", () -> x.write(0, 0), BAD);
    }

    private void wipe() {
        check.about("promise 3");
        BowBend x = newBow();
        still(x, "wipe", x::wipe, 0);
        Check.put(x, "5200/5200");
        x.stave();
        due("wipe", x.wipe(), 9);
        due("count", x.count(0), 0);
        due("fault", x.fault(), 0);
        due("the stave stays", x.about(0, 1), 20);
        due("written anew", x.write(1, '5'), 1);
        due("fault", x.fault(), 1);
        due("wipe", x.wipe(), 1);
    }

    private void faultAt(String signs, int want) {
        due("fault of " + signs, Check.faultOf(signs), want);
    }

    private void fault() {
        check.about("promise 4");
        String six = "520052005200520052005200";
        faultAt("", 0);
        faultAt("0", 0);
        faultAt("/", 0);
        faultAt(":", 0);
        faultAt("\0", 0);
        faultAt("\u00b5", 0);
        faultAt("1", 1);
        faultAt("9", 1);
        faultAt("55", 1);
        faultAt("54", 2);
        faultAt("50", 2);
        faultAt("503", 2);
        faultAt("504", 3);
        faultAt("541", 2);
        faultAt("540", 3);
        faultAt("539", 3);
        faultAt("53:", 2);
        faultAt("53/", 2);
        faultAt("5/", 1);
        faultAt("5203", 3);
        faultAt("520/", 3);
        faultAt("5202", 4);
        faultAt("52020", 4);
        faultAt("52029", 5);
        faultAt("5202/", 5);
        faultAt("5202//", 5);
        faultAt("5202/5202", NONE);
        faultAt("5202/52020", 9);
        faultAt("5202/5202/", 9);
        faultAt("5202/52025", 9);
        faultAt("52025202/5202", 13);
        faultAt("52025202/5202/", 13);
        faultAt("52025202/52025202", NONE);
        faultAt("52025202/52025203", 16);
        faultAt("52025202/52035202", 12);
        faultAt("52035202/52025202", 3);
        faultAt("5202/5202/5202", 9);
        faultAt(six, 24);
        faultAt(six + "5", 24);
        faultAt(six + "/", 25);
        faultAt(six + "/" + six, NONE);
        faultAt(six + "/" + six + "5", 49);
        faultAt(six + "/" + six.substring(1), 27);
    }

    private void stave() {
        check.about("promise 5");
        BowBend x = newBow();
        still(x, "no text", x::stave, LATE);
        Check.put(x, "5200/520");
        still(x, "not at its end", x::stave, LATE);
        x.wipe();
        Check.put(x, UNLIKE);
        due("stave", x.stave(), 2);
        due("the text stays", x.count(0), 17);
        due("its places", x.count(1), 2);
        int[][] places = {{5, 20, 0}, {3, 10, 1}, {4, 12, 2}, {9, 40, 0}};
        for (int i = 0; i < 12; i++) {
            int place = i / 6 * 10 + i / 3 % 2;
            due("about " + place + " " + i % 3, x.about(place, i % 3), places[i / 3][i % 3]);
        }
        due("no third", x.about(2, 0), UNKNOWN);
        staveAnew();
    }

    private void staveAnew() {
        BowBend x = Check.bowOf("5200/5200");
        x.wood(0, 4, 99, 1);
        x.knot(0, true);
        x.see(10, 7);
        x.draw(2);
        x.keep(1);
        x.knot(10, true);
        x.draw(20);
        due("set", x.count(3) > 0 ? 1 : 0, 1);
        due("broken", x.broken() >= 0 ? 1 : 0, 1);
        due("made anew", x.stave(), 1);
        due("broken", x.broken(), NONE);
        due("knots", x.count(2), 0);
        due("sets", x.count(3), 0);
        due("seen", x.count(4), 0);
        due("woods stay", x.grown(0, 0), 4);
        due("text stays", x.count(0), 9);
        due("what was kept stays", x.again(1), 1);
        due("what was kept stays", x.count(4), 7);
        String six = "111011201130114011501160";
        BowBend y = Check.bowOf(six + "/" + six);
        due("six", y.count(1), 6);
        due("last", y.about(15, 1), 16);
    }

    private void wood() {
        check.about("promise 6");
        BowBend x = newBow();
        due("wood(0)", x.wood(0, 9, 99, 1), 5);
        due("wood(0)", x.wood(0, 1, 1, 99), 9);
        due("wood(1)", x.wood(1, 2, 3, 4), 7);
        due("wood(2)", x.wood(2, 5, 6, 7), 3);
        int[] woods = {1, 1, 99, 2, 3, 4, 5, 6, 7};
        for (int i = 0; i < 9; i++) {
            due("grown " + i, x.grown(i / 3, i % 3), woods[i]);
        }
        due("e counts at once", x.give(0), 25000);
        still(x, "wood(-1)", () -> x.wood(-1, 1, 1, 1), UNKNOWN);
        still(x, "wood(3)", () -> x.wood(3, 1, 1, 1), UNKNOWN);
        still(x, "UNKNOWN first", () -> x.wood(HIGH, 0, 0, 0), UNKNOWN);
        still(x, "e", () -> x.wood(0, 0, 1, 1), BAD);
        still(x, "e", () -> x.wood(0, 10, 1, 1), BAD);
        still(x, "pull", () -> x.wood(0, 2, 0, 1), BAD);
        still(x, "pull", () -> x.wood(0, 2, 100, 1), BAD);
        still(x, "press", () -> x.wood(0, 2, 1, 0), BAD);
        still(x, "press", () -> x.wood(0, 2, 1, 100), BAD);
    }

    private void grown() {
        check.about("promise 7");
        BowBend x = newBow();
        due("e", x.grown(1, 0), 7);
        due("pull", x.grown(1, 1), 80);
        due("press", x.grown(2, 2), 20);
        still(x, "grown(-1)", () -> x.grown(-1, 0), UNKNOWN);
        still(x, "grown(3)", () -> x.grown(3, 9), UNKNOWN);
        still(x, "what", () -> x.grown(0, -1), BAD);
        still(x, "what", () -> x.grown(0, 3), BAD);
    }

    private void knot() {
        check.about("promise 8");
        BowBend x = Check.bowOf(UNLIKE);
        due("knot", x.knot(11, true), 1);
        due("again", x.knot(11, true), 0);
        due("about", x.about(11, 4), 1);
        due("others", x.about(10, 4), 0);
        due("knots", x.count(2), 1);
        due("off", x.knot(11, false), 1);
        due("off again", x.knot(11, false), 0);
        due("never on", x.knot(0, false), 0);
        due("knots", x.count(2), 0);
        unknownPlaces(x, place -> x.knot(place, true));
    }

    private interface Asked {
        long of(int place);
    }

    /** For a stave of two places a limb. */
    private void unknownPlaces(BowBend x, Asked ask) {
        for (int place : new int[] {-1, 2, 6, 9, 12, 16, 20, 21, 100, -10, LOW, HIGH}) {
            still(x, "place " + place, () -> ask.of(place), UNKNOWN);
        }
    }

    private void about() {
        check.about("promise 9");
        BowBend x = Check.bowOf(UNLIKE);
        x.see(10, 33);
        x.knot(10, true);
        int[] about = {4, 12, 2, 0, 1, 33};
        for (int what = 0; what < 6; what++) {
            due("about(10, " + what + ")", x.about(10, what), about[what]);
        }
        unknownPlaces(x, place -> x.about(place, 7));
        still(x, "what", () -> x.about(0, -1), BAD);
        still(x, "what", () -> x.about(0, 6), BAD);
        BowBend y = newBow();
        y.draw(3);
        due("set", y.about(10, 3), 20);
    }

    private void give() {
        check.about("promise 10");
        BowBend x = Check.bowOf(UNLIKE);
        due("give(0)", x.give(0), 5000);
        due("give(1), arm 2, cut", x.give(1), 190476);
        due("give(10)", x.give(10), 48225);
        due("give(11)", x.give(11), 1388);
        unknownPlaces(x, x::give);
        String six = "104010401040104010401040";
        BowBend y = Check.bowOf(six + "/" + six);
        y.wood(0, 1, 1, 1);
        due("the most", y.give(15), 562500000);
        BowBend z = Check.bowOf("9400/9400");
        z.wood(0, 9, 1, 1);
        due("the least", z.give(0), 192);
    }

    private void limb() {
        check.about("promise 11");
        BowBend x = Check.bowOf(UNLIKE);
        due("limb(0)", x.limb(0), 195476);
        due("limb(1)", x.limb(1), 49613);
        still(x, "limb(-1)", () -> x.limb(-1), UNKNOWN);
        still(x, "limb(2)", () -> x.limb(2), UNKNOWN);
        String six = "104010401040104010401040";
        BowBend y = Check.bowOf(six + "/" + six);
        y.wood(0, 1, 1, 1);
        due("1 and 4 .. and 36", y.limb(1), 15625000L * 91);
    }

    private void follow() {
        check.about("promise 12");
        BowBend x = newBow();
        due("follow", x.follow(), 0);
        x.draw(3);
        due("20 and 20", x.follow(), 4);
        x.steam(0);
        due("10 and 20", x.follow(), 3);
        x.steam(0);
        due("5 and 20, cut", x.follow(), 2);
        due("told of what is there", x.count(3), 25);
    }

    private void weight() {
        check.about("promise 13");
        BowBend x = newBow();
        due("weight(28)", x.weight(28, true), 5600);
        due("below", x.weight(28, false), 1);
        due("weight(0)", x.weight(0, true), 0);
        due("below", x.weight(0, false), 1);
        still(x, "x", () -> x.weight(-1, true), BAD);
        still(x, "x", () -> x.weight(41, false), BAD);
        x.draw(3);
        due("it follows by 4", x.weight(5, true), 200);
        due("all of it", x.weight(4, true), 0);
        due("less than nothing", x.weight(1, true), 0);
        due("below", x.weight(1, false), 1);
        due("the most", x.weight(40, true), 7200);
        BowBend y = Check.bowOf("5210/5200");
        due("4319 and 5000", y.weight(3, true), 6000000);
        due("below", y.weight(3, false), 9319);
    }

    private void strain() {
        check.about("promise 14");
        BowBend x = newBow();
        due("strain", x.strain(0, 3), 60000);
        due("strain", x.strain(10, 0), 0);
        BowBend y = Check.bowOf(UNLIKE);
        due("cut once", y.strain(1, 10), 20000000L * 2 * 1000000 / (245089L * 7 * 3 * 100));
        due("cut once", y.strain(11, 40), 80000000L * 2 * 1000000 / (245089L * 5 * 9 * 1600));
        unknownPlaces(y, place -> y.strain(place, 41));
        still(y, "x", () -> y.strain(0, -1), BAD);
        still(y, "x", () -> y.strain(0, 41), BAD);
        x.draw(3);
        due("by what it follows", x.strain(10, 7), 60000);
        due("a great one", Check.bowOf("5400/5400").strain(0, 40), 1600000);
    }

    private void drawTakesSets() {
        check.about("promise 15");
        BowBend x = newBow();
        due("on the press line", x.draw(2), 0);
        due("no set", x.count(3), 0);
        due("on the pull line", x.draw(3), 2);
        due("20 above", x.about(0, 3), 20);
        due("all at once", x.about(10, 3), 20);
        due("broken", x.broken(), NONE);
        still(x, "x", () -> x.draw(-1), BAD);
        still(x, "x", () -> x.draw(41), BAD);
        BowBend y = Check.bowOf("5210/5210");
        y.wood(0, 5, 99, 40);
        due("63002", y.strain(0, 3), 63002);
        due("draw", y.draw(3), 2);
        due("a bit counts as one", y.about(0, 3), 24);
        BowBend z = newBow();
        z.wood(0, 5, 99, 1);
        due("draw", z.draw(4), 2);
        due("79", z.about(0, 3), 79);
        due("15", z.follow(), 15);
        due("draw", z.draw(19), 2);
        due("99 at most", z.about(0, 3), 99);
        due("99 at most", z.about(10, 3), 99);
        BowBend one = Check.bowOf("5200/5120");
        one.wood(0, 5, 99, 14);
        due("one alone", one.draw(1), 1);
        due("6 above", one.about(10, 3), 6);
        due("the other none", one.about(0, 3), 0);
    }

    private void drawBreaks() {
        check.about("promise 15");
        BowBend x = newBow();
        due("of like ones the least told", x.draw(4), 100);
        due("it takes no set", x.count(3), 0);
        still(x, "BAD before LATE", () -> x.draw(41), BAD);
        still(x, "it is broken", () -> x.draw(0), LATE);
        BowBend y = newBow();
        y.knot(10, true);
        due("most above its own line", y.draw(4), 110);
        due("broken", y.broken(), 10);
        BowBend z = Check.bowOf("52005200/52005200");
        due("the second", z.draw(40), 101);
    }

    private void drawLines() {
        check.about("promise 15");
        BowBend x = Check.bowOf("5200/5120");
        x.wood(0, 5, 79, 99);
        due("39473", x.strain(10, 2), 39473);
        due("under 79", x.draw(2), 0);
        x.knot(10, true);
        due("half of 79 is 39", x.draw(2), 110);
        BowBend y = newBow();
        y.wood(0, 5, 1, 99);
        y.knot(0, true);
        due("half of 1 is 0, 0 is not more", y.draw(0), 0);
        due("others keep theirs", y.draw(1), 100);
        BowBend z = Check.bowOf("1110/2090");
        due("23001", z.strain(0, 2), 23001);
        z.wood(0, 5, 24, 23);
        due("one thousandth above", z.draw(2), 1);
        due("counts as one", z.about(0, 3), 1);
        z.stave();
        z.wood(0, 5, 23, 23);
        due("one thousandth above", z.draw(2), 100);
    }

    private void broken() {
        check.about("promise 16");
        BowBend x = newBow();
        due("broken", x.broken(), NONE);
        x.knot(10, true);
        x.keep(0);
        x.draw(4);
        due("broken", x.broken(), 10);
        due("told as if it were not", x.weight(28, true), 5600);
        due("even", x.even(3), 1000);
        due("strain", x.strain(0, 3), 60000);
        x.again(0);
        due("as it was", x.broken(), NONE);
    }

    private void scrape() {
        check.about("promise 17");
        BowBend x = Check.bowOf(UNLIKE);
        due("scrape", x.scrape(0, 9), 11);
        due("about", x.about(0, 1), 11);
        due("scrape", x.scrape(0, 1), 10);
        due("to 4", x.scrape(0, 6), 4);
        still(x, "below 4", () -> x.scrape(0, 1), LATE);
        due("scrape", x.scrape(1, 3), 7);
        still(x, "below 4", () -> x.scrape(1, 4), LATE);
        still(x, "s", () -> x.scrape(1, 0), BAD);
        still(x, "s", () -> x.scrape(1, 10), BAD);
        still(x, "s", () -> x.scrape(1, LOW), BAD);
        unknownPlaces(x, place -> x.scrape(place, 0));
        BowBend y = newBow();
        y.draw(4);
        still(y, "it is broken", () -> y.scrape(10, 1), LATE);
        still(y, "BAD first", () -> y.scrape(10, 0), BAD);
    }

    private void steam() {
        check.about("promise 18");
        BowBend x = newBow();
        x.draw(3);
        due("half of 20", x.steam(10), 10);
        due("half of 10", x.steam(10), 5);
        due("half of 5, cut", x.steam(10), 2);
        due("about", x.about(10, 3), 2);
        due("the other", x.about(0, 3), 20);
        due("half of 2", x.steam(10), 1);
        due("half of 1", x.steam(10), 0);
        due("half of 0", x.steam(10), 0);
        still(x, "unknown", () -> x.steam(1), UNKNOWN);
        x.draw(6);
        due("broken", x.broken(), 0);
        still(x, "it is broken", () -> x.steam(0), LATE);
        still(x, "UNKNOWN first", () -> x.steam(9), UNKNOWN);
    }

    private void hingeAndStiff() {
        check.about("promise 19");
        BowBend x = Check.bowOf("520031015200/412294005200");
        due("hinge", x.hinge(10), 1);
        BowBend y = Check.bowOf("52005200/52005200");
        due("of like ones the least told", y.hinge(10), 1);
        due("all 0", y.hinge(0), 0);
        still(y, "x", () -> y.hinge(-1), BAD);
        still(y, "x", () -> y.hinge(41), BAD);
        due("the other limb", Check.bowOf("5200/5190").hinge(1), 10);
        check.about("promise 20");
        due("stiff", x.stiff(10), 11);
        due("of like ones the least told", y.stiff(10), 0);
        due("all 0", y.stiff(0), 0);
        still(y, "x", () -> y.stiff(-1), BAD);
        still(y, "x", () -> y.stiff(41), BAD);
        due("the other limb", Check.bowOf("5190/5200").stiff(1), 10);
    }

    private void even() {
        check.about("promise 21");
        BowBend x = newBow();
        due("even", x.even(1), 1000);
        due("all 0", x.even(0), 1000);
        still(x, "x", () -> x.even(-1), BAD);
        still(x, "x", () -> x.even(41), BAD);
        due("half", Check.bowOf("52005200/52005200").even(40), 500);
        BowBend y = Check.bowOf("5210/5200");
        due("97331", y.strain(0, 5), 97331);
        due("107307", y.strain(10, 5), 107307);
        due("cut", y.even(5), 907);
        due("the other limb", Check.bowOf("5200/5210").even(5), 907);
    }

    private void next() {
        check.about("promise 22");
        BowBend x = Check.bowOf("5210/5200");
        due("next", x.next(4, 0), 0);
        still(x, "it weighs 800 then", () -> x.next(4, 800), 0);
        still(x, "not 801", () -> x.next(4, 801), NONE);
        due("no more even at 0", x.next(0, 0), NONE);
        due("nor when it is even", newBow().next(4, 0), NONE);
        still(x, "x", () -> x.next(-1, 0), BAD);
        still(x, "x", () -> x.next(41, 0), BAD);
        still(x, "f", () -> x.next(0, -1), BAD);
        still(x, "f", () -> x.next(0, 1000), BAD);
        due("f may be 999", x.next(0, 999), NONE);
        BowBend like = Check.farWoods("43618352/43618352", 8);
        due("scraped in the first limb", Check.evenScraped(like, 1, 0), 105);
        due("scraped in the second limb", Check.evenScraped(like, 1, 10), 105);
        still(like, "of like ones the least told", () -> like.next(1, 0), 0);
        due("4 deep is not scraped", Check.bowOf("5040/9050").next(40, 0), 10);
        due("4 deep is not scraped", Check.bowOf("50405040/50405040").next(1, 0), NONE);
        due("nor when it is the stiff one", Check.bowOf("9040/4040").next(1, 0), NONE);
        x.draw(40);
        due("broken, as if it were not", x.next(4, 0), 0);
    }

    private void best() {
        check.about("promise 23");
        BowBend x = Check.bowOf("5220/5200");
        int now = x.even(4);
        int one = Check.bowOf("5210/5200").even(4);
        due("one", x.best(4, 0, 1), one);
        due("two", x.best(4, 0, 2), 1000);
        due("no more than needed", x.best(4, 0, 3), 1000);
        still(x, "two weigh 800", () -> x.best(4, 800, 3), 1000);
        still(x, "not 801", () -> x.best(4, 801, 3), one);
        // 22 deep gives 3756, 21 deep 4319.
        still(x, "one weighs 858", () -> x.best(4, 858, 3), one);
        still(x, "not 859", () -> x.best(4, 859, 3), now);
        still(x, "none weighs 913", () -> x.best(4, 913, 3), now);
        still(x, "not 914", () -> x.best(4, 914, 3), NONE);
        due("at 0", x.best(0, 0, 1), 1000);
        due("at 0", x.best(0, 1, 1), NONE);
        due("4 deep is not scraped", Check.bowOf("5040/5050").best(1, 0, 3), 1000);
        due("nor when it is the stiff one", Check.bowOf("9040/4040").best(1, 0, 3), 444);
        still(x, "x", () -> x.best(-1, 0, 1), BAD);
        still(x, "x", () -> x.best(41, 0, 1), BAD);
        still(x, "f", () -> x.best(0, -1, 1), BAD);
        still(x, "f", () -> x.best(0, 1000, 1), BAD);
        still(x, "n", () -> x.best(0, 0, 0), BAD);
        still(x, "n", () -> x.best(0, 0, 4), BAD);
        x.draw(40);
        due("broken, as if it were not", x.best(4, 0, 2), 1000);
    }

    private void bestOfLikeOnes() {
        check.about("promise 23");
        BowBend x = Check.bowOf("5210/5210");
        due("of like ones the fewest", x.bestAt(4, 0, 2, 0), NONE);
        BowBend y = Check.farWoods("304141121041/304141121041", 9);
        due("one brings nothing", y.best(1, 0, 1), 110);
        due("these", Check.evenScraped(y, 1, 1, 1), 111);
        due("and those", Check.evenScraped(y, 1, 11, 11), 111);
        due("two", y.best(1, 0, 2), 111);
        due("the first is least", y.bestAt(1, 0, 2, 0), 1);
        due("the second too", y.bestAt(1, 0, 2, 1), 1);
        BowBend z = Check.farWoods("328111209042/328111209042", 3);
        due("these", Check.evenScraped(z, 2, 0, 10), 2);
        due("and those", Check.evenScraped(z, 2, 1, 1), 2);
        due("the first is least", z.bestAt(2, 0, 2, 0), 0);
        due("then the second", z.bestAt(2, 0, 2, 1), 10);
    }

    private void bestAt() {
        check.about("promise 24");
        BowBend x = Check.bowOf("52105201/52205201");
        x.wood(0, 4, 60, 40);
        x.wood(1, 8, 60, 40);
        due("all alike", x.best(4, 0, 3), 1000);
        still(x, "the least told first", () -> x.bestAt(4, 0, 3, 0), 0);
        still(x, "then", () -> x.bestAt(4, 0, 3, 1), 10);
        still(x, "the same place more often", () -> x.bestAt(4, 0, 3, 2), 10);
        still(x, "no more", () -> x.bestAt(4, 0, 3, 3), NONE);
        still(x, "no more", () -> x.bestAt(4, 0, 3, HIGH), NONE);
        still(x, "none such", () -> x.bestAt(4, 0, 3, -1), NONE);
        still(x, "none such", () -> x.bestAt(4, 0, 3, LOW), NONE);
        BowBend y = Check.bowOf("5200/5220");
        due("two", y.bestAt(4, 0, 3, 1), 10);
        due("no more than needed", y.bestAt(4, 0, 3, 2), NONE);
        due("no way", x.bestAt(0, 1, 3, 0), NONE);
        due("no scrape", newBow().bestAt(4, 0, 3, 0), NONE);
        still(x, "x", () -> x.bestAt(-1, 0, 1, 0), BAD);
        still(x, "x", () -> x.bestAt(41, 0, 1, 0), BAD);
        still(x, "f", () -> x.bestAt(0, -1, 1, 0), BAD);
        still(x, "f", () -> x.bestAt(0, 1000, 1, 0), BAD);
        still(x, "n", () -> x.bestAt(0, 0, 0, 0), BAD);
        still(x, "n", () -> x.bestAt(0, 0, 4, 0), BAD);
        still(x, "BAD before NONE", () -> x.bestAt(0, 0, 4, 9), BAD);
    }

    private void form() {
        check.about("promise 25");
        BowBend x = newBow();
        due("160 is 12 and a bit", x.form(0, 40, 10), 13);
        due("just no more", x.form(10, 40, 16), 10);
        due("the least", x.form(0, 1, 99), 4);
        due("just 40", x.form(0, 40, 1), 40);
        due("not enough", x.form(0, 41, 1), NONE);
        due("not enough", x.form(0, 999, 1), NONE);
        BowBend y = Check.bowOf(UNLIKE);
        // 40 and 2 and 1000 by 16 and 5 and 9 is 111 and a bit.
        due("arm and width", y.form(11, 40, 16), 11);
        unknownPlaces(y, place -> y.form(place, 0, 0));
        still(y, "f", () -> y.form(0, 0, 1), BAD);
        still(y, "f", () -> y.form(0, 1000, 1), BAD);
        still(y, "s", () -> y.form(0, 1, 0), BAD);
        still(y, "s", () -> y.form(0, 1, 100), BAD);
        due("f 999, s 99", x.form(0, 999, 99), 21);
        due("998400 is 600 too few", x.form(0, 999, 39), 33);
    }

    private void shape() {
        check.about("promise 26");
        BowBend x = newBow();
        due("both", x.shape(40, 16), 2);
        due("10 deep", x.about(0, 1), 10);
        due("10 deep", x.about(10, 1), 10);
        due("none is otherwise", x.shape(40, 16), 0);
        still(x, "some has none", () -> x.shape(41, 1), LATE);
        still(x, "f", () -> x.shape(0, 1), BAD);
        still(x, "f", () -> x.shape(1000, 1), BAD);
        still(x, "s", () -> x.shape(1, 0), BAD);
        still(x, "s", () -> x.shape(1, 100), BAD);
        due("deeper than it was", x.shape(40, 1), 2);
        due("40 deep", x.about(0, 1), 40);
        BowBend y = Check.bowOf("9200/1200");
        due("the first has one", y.form(0, 100, 5), 22);
        still(y, "the other none", () -> y.shape(100, 5), LATE);
        BowBend z = Check.bowOf("5200/5100");
        due("one of them", z.shape(40, 16), 1);
        BowBend b = newBow();
        b.draw(3);
        b.knot(0, true);
        b.see(0, 9);
        b.draw(8);
        due("broken", b.broken(), 0);
        due("a broken one too", b.shape(40, 16), 2);
        due("it stays broken", b.broken(), 0);
        due("sets stay", b.count(3), 40);
        due("knots stay", b.count(2), 1);
        due("what is seen stays", b.count(4), 9);
    }

    private void pace() {
        check.about("promise 27");
        BowBend x = newBow();
        due("800 and 4 by 8 and 2", x.pace(8, 4, true), 320);
        due("below", x.pace(8, 4, false), 1);
        due("by 9 and 2", x.pace(9, 4, true), 3200);
        due("below", x.pace(9, 4, false), 11);
        due("at 0", x.pace(9, 0, true), 0);
        due("below", x.pace(9, 0, false), 1);
        // 5831 and 5000 give 10831, and 95 and 100 are a load of 1.
        BowBend y = Check.bowOf("5190/5200");
        due("a load of 1 and a bit", y.pace(1, 4, true), 16000000);
        due("below", y.pace(1, 4, false), 10831);
        BowBend v = Check.bowOf("9110/5200");
        due("1 and 99 of 100", v.pace(1, 4, false), below(32000000, 21695 * 2));
        due("m may be 99", v.pace(99, 4, false), below(32000000, 21695 * 100));
        BowBend z = Check.bowOf("52005200/52005200");
        due("nearer the tip is more load", z.pace(1, 4, true), 640);
        due("below", z.pace(1, 4, false), 7);
        BowBend u = Check.bowOf("52009400/52005200");
        due("5000, 1388, 5000, 20000, and 8 of load", u.pace(2, 4, false), below(32000000, 31388L * 10));
        still(x, "m", () -> x.pace(0, 1, true), BAD);
        still(x, "m", () -> x.pace(100, 1, true), BAD);
        still(x, "x", () -> x.pace(1, -1, true), BAD);
        still(x, "x", () -> x.pace(1, 41, false), BAD);
        x.draw(3);
        due("x itself, less only in the weight", x.pace(8, 6, true), 240);
    }

    private void wet() {
        check.about("promise 28");
        BowBend x = newBow();
        due("dry", x.wet(0, 4, true), 800);
        due("half", x.wet(50, 4, true), 400);
        due("99 of 100", x.wet(1, 1, true), 198);
        due("below", x.wet(1, 1, false), 1);
        due("at 0", x.wet(50, 0, true), 0);
        due("below", x.wet(50, 0, false), 1);
        due("least terms", Check.bowOf("5210/5200").wet(50, 3, true), 3000000);
        due("below", Check.bowOf("5210/5200").wet(50, 3, false), 9319);
        still(x, "u", () -> x.wet(-1, 0, true), BAD);
        still(x, "u", () -> x.wet(51, 0, false), BAD);
        still(x, "x", () -> x.wet(0, -1, true), BAD);
        still(x, "x", () -> x.wet(0, 41, true), BAD);
    }

    private void lost() {
        check.about("promise 29");
        BowBend x = newBow();
        still(x, "40000 and 5000", () -> x.lost(0, 10, 40, 4, false, true), 1600);
        due("below", x.lost(0, 10, 40, 4, false, false), 9);
        still(x, "625 and 5000", () -> x.lost(0, 10, 40, 4, true, true), 12800);
        due("below", x.lost(0, 10, 40, 4, true, false), 9);
        due("just known", x.lost(10, 20, 20, 4, true, true), 800);
        BowBend y = Check.bowOf(UNLIKE);
        // 20 deep the second place of the first limb gives 23809.
        due("the tip alone", y.lost(0, 20, 20, 1, true, false), below(2000000, 245089));
        due("both", y.lost(1, 20, 20, 1, true, false), below(2000000, 5000 + 23809 + 48225 + 1388));
        due("the other limb", y.lost(10, 12, 40, 1, false, false), below(2000000, 245089));
        due("the other limb", y.lost(11, 40, 40, 1, false, false), below(2000000, 195476 + 1302 + 1388));
        due("its woods and arms", y.lost(11, 4, 40, 1, false, false), below(2000000, 195476 + 1302083 + 1388888));
        unknownPlaces(y, place -> y.lost(place, 0, 0, -1, true, true));
        still(y, "a", () -> y.lost(0, 3, 4, 0, true, true), BAD);
        still(y, "a", () -> y.lost(0, 41, 41, 0, true, true), BAD);
        still(y, "b", () -> y.lost(0, 4, 41, 0, true, false), BAD);
        still(y, "a above b", () -> y.lost(0, 5, 4, 0, false, true), BAD);
        still(y, "x", () -> y.lost(0, 4, 4, -1, true, true), BAD);
        still(y, "x", () -> y.lost(0, 4, 4, 41, true, true), BAD);
        due("at 0", y.lost(0, 4, 40, 0, true, true), 0);
        due("below", y.lost(0, 4, 40, 0, true, false), 1);
    }

    private static long below(long top, long bottom) {
        return bottom / java.math.BigInteger.valueOf(bottom).gcd(java.math.BigInteger.valueOf(top)).longValue();
    }

    private void see() {
        check.about("promise 30");
        BowBend x = Check.bowOf(UNLIKE);
        due("see", x.see(1, 99), 0);
        due("see", x.see(1, 7), 99);
        due("see", x.see(10, 5), 0);
        due("about", x.about(1, 5), 7);
        due("all", x.count(4), 12);
        due("none again", x.see(1, 0), 7);
        unknownPlaces(x, place -> x.see(place, 100));
        still(x, "v", () -> x.see(0, -1), BAD);
        still(x, "v", () -> x.see(0, 100), BAD);
    }

    private void off() {
        check.about("promise 31");
        BowBend x = newBow();
        still(x, "nothing is seen", () -> x.off(0), LATE);
        still(x, "UNKNOWN first", () -> x.off(1), UNKNOWN);
        x.see(0, 1);
        due("all of it", x.off(0), 1500);
        due("nothing of it", x.off(10), 500);
        x.see(10, 2);
        due("333 less 500", x.off(0), 833);
        due("666 less 500", x.off(10), 1166);
        BowBend y = Check.bowOf("5210/5200");
        y.see(0, 1);
        y.see(10, 1);
        due("500 less 463", y.off(0), 1037);
        due("500 less 536", y.off(10), 964);
        unknownPlaces(Check.bowOf(UNLIKE), place -> Check.bowOf(UNLIKE).off(place));
    }

    private void tooStiff() {
        check.about("promise 32");
        BowBend x = newBow();
        still(x, "nothing is seen", x::tooStiff, NONE);
        x.see(0, 5);
        due("the other", x.tooStiff(), 10);
        x.see(10, 5);
        due("of like ones the least told", x.tooStiff(), 0);
        x.see(10, 6);
        due("the first", x.tooStiff(), 0);
        BowBend y = Check.bowOf("5210/5200");
        y.see(0, 1);
        y.see(10, 1);
        due("against what it should be", y.tooStiff(), 10);
        y.see(0, 0);
        y.see(10, 0);
        due("nothing again", y.tooStiff(), NONE);
        BowBend z = Check.bowOf(UNLIKE);
        z.see(11, 1);
        due("a bit is seen", z.tooStiff(), 1);
        z.see(0, 10);
        z.see(1, 10);
        z.see(10, 10);
        z.see(11, 70);
        // 100 less 20, 100 less 777, 100 less 196, 700 less 5.
        due("the least of them", z.tooStiff(), 1);
        due("off(10)", z.off(10), 904);
        BowBend one = newBow();
        one.see(10, 1);
        due("one alone is seen", one.tooStiff(), 0);
    }

    private void slipsDue(BowBend x, int n, int t, int y, long upper, long lower) {
        due("slips " + n + " " + t + " " + y, x.slips(0, n, t, y, true), upper);
        due("slips " + n + " " + t + " " + y + " below", x.slips(0, n, t, y, false), lower);
    }

    private void slips() {
        check.about("promise 33");
        BowBend x = newBow();
        slipsDue(x, 1, 3, 18, 1, 1);
        slipsDue(x, 1, 3, 19, 7, 10);
        slipsDue(x, 1, 3, 20, 0, 1);
        slipsDue(x, 2, 5, 17, 3, 4);
        slipsDue(x, 3, 1, 14, 1, 1);
        slipsDue(x, 3, 1, 15, 999, 1000);
        slipsDue(x, 3, 1, 16, 243, 250);
        slipsDue(x, 12, 0, 8, 1, 1);
        slipsDue(x, 12, 0, 9, 0, 1);
        slipsDue(x, 10, 10, 0, 1, 1);
        slipsDue(x, 10, 10, 1, 0, 1);
        slipsDue(x, 12, 1, 8, 282429536481L, 1000000000000L);
        slipsDue(x, 1, 0, 40, 0, 1);
        BowBend z = Check.bowOf("5040/5200");
        slipsDue(z, 1, 5, 3, 1, 2);
        slipsDue(z, 1, 5, 2, 1, 1);
        slipsDue(z, 5, 0, 0, 0, 1);
        BowBend u = Check.bowOf(UNLIKE);
        due("its own depth", u.slips(11, 1, 0, 39, true), 1);
        unknownPlaces(u, place -> u.slips(place, 0, 0, 0, true));
        still(x, "n", () -> x.slips(0, 0, 0, 0, true), BAD);
        still(x, "n", () -> x.slips(0, 13, 0, 0, false), BAD);
        still(x, "t", () -> x.slips(0, 1, -1, 0, true), BAD);
        still(x, "t", () -> x.slips(0, 1, 11, 0, true), BAD);
        still(x, "y", () -> x.slips(0, 1, 0, -1, true), BAD);
        still(x, "y", () -> x.slips(0, 1, 0, 41, true), BAD);
    }

    private void goodDue(int m, int t, int k, long upper, long lower) {
        due("good " + m + " " + t + " " + k, newBow().good(m, t, k, true), upper);
        due("good " + m + " " + t + " " + k + " below", newBow().good(m, t, k, false), lower);
    }

    private void good() {
        check.about("promise 34");
        goodDue(2, 5, 1, 3, 4);
        goodDue(2, 5, 2, 1, 4);
        goodDue(2, 5, 0, 1, 1);
        goodDue(3, 1, 3, 1, 1000);
        goodDue(3, 1, 2, 7, 250);
        goodDue(12, 0, 0, 1, 1);
        goodDue(12, 0, 1, 0, 1);
        goodDue(12, 10, 12, 1, 1);
        goodDue(12, 3, 12, 531441, 1000000000000L);
        goodDue(1, 7, 1, 7, 10);
        BowBend x = newBow();
        still(x, "m", () -> x.good(0, 0, 0, true), BAD);
        still(x, "m", () -> x.good(13, 0, 0, false), BAD);
        still(x, "t", () -> x.good(1, -1, 0, true), BAD);
        still(x, "t", () -> x.good(1, 11, 0, true), BAD);
        still(x, "k", () -> x.good(2, 1, -1, true), BAD);
        still(x, "k", () -> x.good(2, 1, 3, true), BAD);
    }

    private void keepAndAgain() {
        check.about("promise 35");
        BowBend x = Check.bowOf(UNLIKE);
        x.wood(0, 5, 99, 1);
        x.wood(1, 7, 99, 1);
        x.wood(2, 3, 99, 1);
        x.knot(11, true);
        x.see(10, 8);
        due("some take sets", x.draw(5) > 0 ? 1 : 0, 1);
        String kept = Check.stateOf(x);
        still(x, "keep", () -> x.keep(0), 2);
        still(x, "slot", () -> x.keep(-1), UNKNOWN);
        still(x, "slot", () -> x.keep(2), UNKNOWN);
        still(x, "other slot", () -> x.again(1), LATE);
        x.wood(0, 1, 2, 3);
        x.knot(11, false);
        x.see(10, 9);
        x.steam(1);
        x.scrape(0, 3);
        due("the slot has its own", x.keep(1), 2);
        due("it breaks", x.draw(40) >= 100 ? 1 : 0, 1);
        check.about("promise 36");
        due("again", x.again(0), 2);
        due("as it was", Check.stateOf(x).equals(kept) ? 1 : 0, 1);
        x.scrape(10, 1);
        x.see(11, 3);
        due("once more", x.again(0), 2);
        due("as it was", Check.stateOf(x).equals(kept) ? 1 : 0, 1);
        due("the other", x.again(1), 2);
        due("e", x.grown(0, 0), 1);
        due("not broken", x.broken(), NONE);
        due("depth", x.about(0, 1), 17);
        still(x, "slot", () -> x.again(-1), UNKNOWN);
        still(x, "slot", () -> x.again(2), UNKNOWN);
        still(x, "slot", () -> x.again(HIGH), UNKNOWN);
        keptOtherSizes();
    }

    private void keptOtherSizes() {
        BowBend x = newBow();
        due("one place", x.keep(1), 1);
        Check.put(x, UNLIKE);
        x.stave();
        x.see(11, 4);
        x.wipe();
        x.write(1, '5');
        due("again", x.again(1), 1);
        due("one place", x.count(1), 1);
        due("nothing is seen", x.count(4), 0);
        due("no second", x.about(11, 5), UNKNOWN);
        due("the text is not kept", x.count(0), 1);
        x.draw(4);
        due("a broken one", x.keep(0), 1);
        x.again(1);
        due("not broken", x.broken(), NONE);
        x.again(0);
        due("broken", x.broken(), 0);
    }

    private void count() {
        check.about("promise 37");
        BowBend x = Check.bowOf(UNLIKE);
        x.knot(0, true);
        x.knot(11, true);
        x.see(1, 9);
        x.see(10, 99);
        int[] counts = {17, 2, 2, 0, 108};
        for (int what = 0; what < 5; what++) {
            due("count " + what, x.count(what), counts[what]);
        }
        BowBend y = newBow();
        y.draw(3);
        y.steam(0);
        due("sets", y.count(3), 30);
        still(x, "what", () -> x.count(-1), BAD);
        still(x, "what", () -> x.count(5), BAD);
    }
}
